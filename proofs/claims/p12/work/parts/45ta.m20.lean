/-! the model: reading, as functions (printed by wip/u/mk_m2.py) -/
def W_in : List (Nat × Nat × Option Nat) := []
def F_in (s : SG) (v : Int32) (lo : Int32) (hi : Int32) : Int32 := let v2 := bif m_cmp .lt v lo then (0 : Int32) else (bif m_cmp .gt v hi then (0 : Int32) else (1 : Int32)); v2
theorem ux_in (s : SG) (v : Int32) (lo : Int32) (hi : Int32)  : UP m_X7_in 0 (m_ent 3 [.int v, .int lo, .int hi]) [] s (Qi s (F_in s v lo hi)) := by
  refine UP.stp 2 (i1 := 2) (L1 := [some (.int v), some (.int lo), some (.int hi)]) (st1 := [.int lo, .int v]) (s1 := s) rfl ?_
  refine mrg (m_cmp .lt v lo) (0 : Int32) (bif m_cmp .gt v hi then (0 : Int32) else (1 : Int32)) (fun v2 : Int32 => UP m_X7_in 9 [some (.int v), some (.int lo), some (.int hi)] [.int v2] s (Qi s (F_in s v lo hi))) (fun cc kk => ?_) (fun cc kk => ?_) (fun v2 e2 => ?_)
  · skip
    refine UP.icT rfl cc ?_
    refine UP.stp 1 (i1 := 9) (L1 := [some (.int v), some (.int lo), some (.int hi)]) (st1 := [.int 0]) (s1 := s) rfl ?_
    exact kk
  · skip
    refine UP.icF rfl cc ?_
    refine UP.stp 2 (i1 := 5) (L1 := [some (.int v), some (.int lo), some (.int hi)]) (st1 := [.int hi, .int v]) (s1 := s) rfl ?_
    refine mrg (m_cmp .gt v hi) (0 : Int32) (1 : Int32) (fun v1 : Int32 => UP m_X7_in 9 [some (.int v), some (.int lo), some (.int hi)] [.int v1] s (Qi s (F_in s v lo hi))) (fun cc kk => ?_) (fun cc kk => ?_) (fun v1 e1 => ?_)
    · skip
      refine UP.icT rfl cc ?_
      refine UP.stp 1 (i1 := 9) (L1 := [some (.int v), some (.int lo), some (.int hi)]) (st1 := [.int 0]) (s1 := s) rfl ?_
      exact kk
    · skip
      refine UP.icF rfl cc ?_
      refine UP.stp 2 (i1 := 9) (L1 := [some (.int v), some (.int lo), some (.int hi)]) (st1 := [.int 1]) (s1 := s) rfl ?_
      exact kk
    subst e1
    exact kk
  exact UP.ret (r := some (.int v2)) rfl ⟨by subst e2; rfl, by subst e2; rfl⟩
def W_byteAt_0 : List (Nat × Nat × Option Nat) := []
def F_byteAt_0 (s : SG) (k : Int32) : Int32 := let v1 := bif m_cmp .ge k (s 124 0) then (-1 : Int32) else s 125 (((24 * 0) + k).toNatClampNeg); v1
theorem ux_byteAt_0 (s : SG) (k : Int32)  : UP m_X7_byteAt 0 (m_ent 3 [.ref 123, .int 0, .int k]) [] s (Qi s (F_byteAt_0 s k)) := by
  refine UP.stp 5 (i1 := 5) (L1 := [some (.ref 123), some (.int 0), some (.int k)]) (st1 := [.int (s 124 0), .int k]) (s1 := s) rfl ?_
  refine mrg (m_cmp .ge k (s 124 0)) (-1 : Int32) (s 125 (((24 * 0) + k).toNatClampNeg)) (fun v1 : Int32 => UP m_X7_byteAt 16 [some (.ref 123), some (.int 0), some (.int k)] [.int v1] s (Qi s (F_byteAt_0 s k))) (fun cc kk => ?_) (fun cc kk => ?_) (fun v1 e1 => ?_)
  · skip
    refine UP.icT rfl cc ?_
    refine UP.stp 1 (i1 := 16) (L1 := [some (.ref 123), some (.int 0), some (.int k)]) (st1 := [.int (-1)]) (s1 := s) rfl ?_
    exact kk
  · skip
    refine UP.icF rfl cc ?_
    refine UP.stp 9 (i1 := 16) (L1 := [some (.ref 123), some (.int 0), some (.int k)]) (st1 := [.int (s 125 (((24 * 0) + k).toNatClampNeg))]) (s1 := s) rfl ?_
    exact kk
  exact UP.ret (r := some (.int v1)) rfl ⟨by subst e1; rfl, by subst e1; rfl⟩
def W_byteAt_1 : List (Nat × Nat × Option Nat) := []
def F_byteAt_1 (s : SG) (k : Int32) : Int32 := let v1 := bif m_cmp .ge k (s 124 1) then (-1 : Int32) else s 125 (((24 * 1) + k).toNatClampNeg); v1
theorem ux_byteAt_1 (s : SG) (k : Int32)  : UP m_X7_byteAt 0 (m_ent 3 [.ref 123, .int 1, .int k]) [] s (Qi s (F_byteAt_1 s k)) := by
  refine UP.stp 5 (i1 := 5) (L1 := [some (.ref 123), some (.int 1), some (.int k)]) (st1 := [.int (s 124 1), .int k]) (s1 := s) rfl ?_
  refine mrg (m_cmp .ge k (s 124 1)) (-1 : Int32) (s 125 (((24 * 1) + k).toNatClampNeg)) (fun v1 : Int32 => UP m_X7_byteAt 16 [some (.ref 123), some (.int 1), some (.int k)] [.int v1] s (Qi s (F_byteAt_1 s k))) (fun cc kk => ?_) (fun cc kk => ?_) (fun v1 e1 => ?_)
  · skip
    refine UP.icT rfl cc ?_
    refine UP.stp 1 (i1 := 16) (L1 := [some (.ref 123), some (.int 1), some (.int k)]) (st1 := [.int (-1)]) (s1 := s) rfl ?_
    exact kk
  · skip
    refine UP.icF rfl cc ?_
    refine UP.stp 9 (i1 := 16) (L1 := [some (.ref 123), some (.int 1), some (.int k)]) (st1 := [.int (s 125 (((24 * 1) + k).toNatClampNeg))]) (s1 := s) rfl ?_
    exact kk
  exact UP.ret (r := some (.int v1)) rfl ⟨by subst e1; rfl, by subst e1; rfl⟩
def W_byteAt_2 : List (Nat × Nat × Option Nat) := []
def F_byteAt_2 (s : SG) (k : Int32) : Int32 := let v1 := bif m_cmp .ge k (s 124 2) then (-1 : Int32) else s 125 (((24 * 2) + k).toNatClampNeg); v1
theorem ux_byteAt_2 (s : SG) (k : Int32)  : UP m_X7_byteAt 0 (m_ent 3 [.ref 123, .int 2, .int k]) [] s (Qi s (F_byteAt_2 s k)) := by
  refine UP.stp 5 (i1 := 5) (L1 := [some (.ref 123), some (.int 2), some (.int k)]) (st1 := [.int (s 124 2), .int k]) (s1 := s) rfl ?_
  refine mrg (m_cmp .ge k (s 124 2)) (-1 : Int32) (s 125 (((24 * 2) + k).toNatClampNeg)) (fun v1 : Int32 => UP m_X7_byteAt 16 [some (.ref 123), some (.int 2), some (.int k)] [.int v1] s (Qi s (F_byteAt_2 s k))) (fun cc kk => ?_) (fun cc kk => ?_) (fun v1 e1 => ?_)
  · skip
    refine UP.icT rfl cc ?_
    refine UP.stp 1 (i1 := 16) (L1 := [some (.ref 123), some (.int 2), some (.int k)]) (st1 := [.int (-1)]) (s1 := s) rfl ?_
    exact kk
  · skip
    refine UP.icF rfl cc ?_
    refine UP.stp 9 (i1 := 16) (L1 := [some (.ref 123), some (.int 2), some (.int k)]) (st1 := [.int (s 125 (((24 * 2) + k).toNatClampNeg))]) (s1 := s) rfl ?_
    exact kk
  exact UP.ret (r := some (.int v1)) rfl ⟨by subst e1; rfl, by subst e1; rfl⟩
def W_readsRower : List (Nat × Nat × Option Nat) := [(126, 127, none)]
def F_readsRower (s : SG) (n : Int32) (at_ : Int32) : Int32 × SG := let v2 := F_byteAt_0 s at_; let v5 := bif m_cmp .ne v2 115 then (bif m_cmp .ne v2 102 then (bif m_cmp .ne v2 108 then (-1 : Int32) else (2 : Int32)) else (1 : Int32)) else (0 : Int32); let v7 := (F_byteAt_0 s (at_ + 1)) - 48; bif m_cmp .eq n 8 then ((0, s)) else (bif m_cmp .ne v5 (-1) then (bif m_cmp .ne (F_in s v7 1 9) 0 then ((2, (uset (uset s 126 n.toNatClampNeg v5) 127 n.toNatClampNeg v7))) else ((1, s))) else ((0, s)))
theorem fr_readsRower (s : SG) (n : Int32) (at_ : Int32)  : Fr W_readsRower s (F_readsRower s n at_).2 := (Fr.bifp (fun x : Int32 × SG => x.2) (Fr.rf _ _) (Fr.bifp (fun x : Int32 × SG => x.2) (Fr.bifp (fun x : Int32 × SG => x.2) (Fr.uset (by rfl) (Fr.uset (by rfl) (Fr.rf _ _))) (Fr.rf _ _)) (Fr.rf _ _)))
theorem ux_readsRower (s : SG) (n : Int32) (at_ : Int32)  : UP m_X7_readsRower 0 (m_ent 6 [.ref 123, .int n, .int at_]) [] s (Qb (F_readsRower s n at_)) := by
  refine UP.stp 3 (i1 := 3) (L1 := [some (.ref 123), some (.int n), some (.int at_), none, none, none]) (st1 := [.int at_, .int 0, .ref 123]) (s1 := s) rfl ?_
  refine UP.cI (M1 := m_X7_byteAt) (as := [.ref 123, .int 0, .int at_]) (rest := []) (T := F_byteAt_0 s at_) rfl rfl (ux_byteAt_0 s at_) ?_
  refine nm (G := fun v2 => UP m_X7_readsRower 4 [some (.ref 123), some (.int n), some (.int at_), none, none, none] [.int v2] s (Qb (F_readsRower s n at_))) (F_byteAt_0 s at_) (fun v2 e2 => ?_)
  refine UP.stp 3 (i1 := 7) (L1 := [some (.ref 123), some (.int n), some (.int at_), some (.int v2), none, none]) (st1 := [.int 115, .int v2]) (s1 := s) rfl ?_
  refine mrg (m_cmp .ne v2 115) (bif m_cmp .ne v2 102 then (bif m_cmp .ne v2 108 then (-1 : Int32) else (2 : Int32)) else (1 : Int32)) (0 : Int32) (fun v5 : Int32 => UP m_X7_readsRower 21 [some (.ref 123), some (.int n), some (.int at_), some (.int v2), none, none] [.int v5] s (Qb (F_readsRower s n at_))) (fun cc kk => ?_) (fun cc kk => ?_) (fun v5 e5 => ?_)
  · skip
    refine UP.icT rfl cc ?_
    refine UP.stp 2 (i1 := 12) (L1 := [some (.ref 123), some (.int n), some (.int at_), some (.int v2), none, none]) (st1 := [.int 102, .int v2]) (s1 := s) rfl ?_
    refine mrg (m_cmp .ne v2 102) (bif m_cmp .ne v2 108 then (-1 : Int32) else (2 : Int32)) (1 : Int32) (fun v4 : Int32 => UP m_X7_readsRower 21 [some (.ref 123), some (.int n), some (.int at_), some (.int v2), none, none] [.int v4] s (Qb (F_readsRower s n at_))) (fun cc kk => ?_) (fun cc kk => ?_) (fun v4 e4 => ?_)
    · skip
      refine UP.icT rfl cc ?_
      refine UP.stp 2 (i1 := 17) (L1 := [some (.ref 123), some (.int n), some (.int at_), some (.int v2), none, none]) (st1 := [.int 108, .int v2]) (s1 := s) rfl ?_
      refine mrg (m_cmp .ne v2 108) (-1 : Int32) (2 : Int32) (fun v3 : Int32 => UP m_X7_readsRower 21 [some (.ref 123), some (.int n), some (.int at_), some (.int v2), none, none] [.int v3] s (Qb (F_readsRower s n at_))) (fun cc kk => ?_) (fun cc kk => ?_) (fun v3 e3 => ?_)
      · skip
        refine UP.icT rfl cc ?_
        refine UP.stp 1 (i1 := 21) (L1 := [some (.ref 123), some (.int n), some (.int at_), some (.int v2), none, none]) (st1 := [.int (-1)]) (s1 := s) rfl ?_
        exact kk
      · skip
        refine UP.icF rfl cc ?_
        refine UP.stp 2 (i1 := 21) (L1 := [some (.ref 123), some (.int n), some (.int at_), some (.int v2), none, none]) (st1 := [.int 2]) (s1 := s) rfl ?_
        exact kk
      subst e3
      exact kk
    · skip
      refine UP.icF rfl cc ?_
      refine UP.stp 2 (i1 := 21) (L1 := [some (.ref 123), some (.int n), some (.int at_), some (.int v2), none, none]) (st1 := [.int 1]) (s1 := s) rfl ?_
      exact kk
    subst e4
    exact kk
  · skip
    refine UP.icF rfl cc ?_
    refine UP.stp 2 (i1 := 21) (L1 := [some (.ref 123), some (.int n), some (.int at_), some (.int v2), none, none]) (st1 := [.int 0]) (s1 := s) rfl ?_
    exact kk
  refine UP.stp 6 (i1 := 27) (L1 := [some (.ref 123), some (.int n), some (.int at_), some (.int v2), some (.int v5), none]) (st1 := [.int (at_ + 1), .int 0, .ref 123]) (s1 := s) rfl ?_
  refine UP.cI (M1 := m_X7_byteAt) (as := [.ref 123, .int 0, .int (at_ + 1)]) (rest := []) (T := F_byteAt_0 s (at_ + 1)) rfl rfl (ux_byteAt_0 s (at_ + 1)) ?_
  refine UP.stp 2 (i1 := 30) (L1 := [some (.ref 123), some (.int n), some (.int at_), some (.int v2), some (.int v5), none]) (st1 := [.int ((F_byteAt_0 s (at_ + 1)) - 48)]) (s1 := s) rfl ?_
  refine nm (G := fun v7 => UP m_X7_readsRower 30 [some (.ref 123), some (.int n), some (.int at_), some (.int v2), some (.int v5), none] [.int v7] s (Qb (F_readsRower s n at_))) ((F_byteAt_0 s (at_ + 1)) - 48) (fun v7 e7 => ?_)
  refine UP.stp 3 (i1 := 33) (L1 := [some (.ref 123), some (.int n), some (.int at_), some (.int v2), some (.int v5), some (.int v7)]) (st1 := [.int 8, .int n]) (s1 := s) rfl ?_
  refine UP.spl (m_cmp .eq n 8) ((0, s)) (bif m_cmp .ne v5 (-1) then (bif m_cmp .ne (F_in s v7 1 9) 0 then ((2, (uset (uset s 126 n.toNatClampNeg v5) 127 n.toNatClampNeg v7))) else ((1, s))) else ((0, s))) (by subst e7 e5 e2; rfl) (fun cc => ?_) (fun cc => ?_)
  · skip
    refine UP.icT rfl cc ?_
    refine UP.stp 1 (i1 := 38) (L1 := [some (.ref 123), some (.int n), some (.int at_), some (.int v2), some (.int v5), some (.int v7)]) (st1 := [.int 0]) (s1 := s) rfl ?_
    exact UP.ret (r := some (.int 0)) rfl ⟨by subst e7 e5 e2; rfl, by subst e7 e5 e2; rfl⟩
  · skip
    refine UP.icF rfl cc ?_
    refine UP.stp 2 (i1 := 36) (L1 := [some (.ref 123), some (.int n), some (.int at_), some (.int v2), some (.int v5), some (.int v7)]) (st1 := [.int (-1), .int v5]) (s1 := s) rfl ?_
    refine UP.spl (m_cmp .ne v5 (-1)) (bif m_cmp .ne (F_in s v7 1 9) 0 then ((2, (uset (uset s 126 n.toNatClampNeg v5) 127 n.toNatClampNeg v7))) else ((1, s))) ((0, s)) (by subst e7 e5 e2; rfl) (fun cc => ?_) (fun cc => ?_)
    · skip
      refine UP.icT rfl cc ?_
      refine UP.stp 3 (i1 := 42) (L1 := [some (.ref 123), some (.int n), some (.int at_), some (.int v2), some (.int v5), some (.int v7)]) (st1 := [.int 9, .int 1, .int v7]) (s1 := s) rfl ?_
      refine UP.cI (M1 := m_X7_in) (as := [.int v7, .int 1, .int 9]) (rest := []) (T := F_in s v7 1 9) rfl rfl (ux_in s v7 1 9) ?_
      refine UP.spl (m_cmp .ne (F_in s v7 1 9) 0) ((2, (uset (uset s 126 n.toNatClampNeg v5) 127 n.toNatClampNeg v7))) ((1, s)) (by subst e7 e5 e2; rfl) (fun cc => ?_) (fun cc => ?_)
      · skip
        refine UP.ifT rfl cc ?_
        refine UP.stp 11 (i1 := 57) (L1 := [some (.ref 123), some (.int n), some (.int at_), some (.int v2), some (.int v5), some (.int v7)]) (st1 := [.int 2]) (s1 := (uset (uset s 126 n.toNatClampNeg v5) 127 n.toNatClampNeg v7)) rfl ?_
        exact UP.ret (r := some (.int 2)) rfl ⟨by subst e7 e5 e2; rfl, by subst e7 e5 e2; rfl⟩
      · skip
        refine UP.ifF rfl cc ?_
        refine UP.stp 1 (i1 := 45) (L1 := [some (.ref 123), some (.int n), some (.int at_), some (.int v2), some (.int v5), some (.int v7)]) (st1 := [.int 1]) (s1 := s) rfl ?_
        exact UP.ret (r := some (.int 1)) rfl ⟨by subst e7 e5 e2; rfl, by subst e7 e5 e2; rfl⟩
    · skip
      refine UP.icF rfl cc ?_
      refine UP.stp 1 (i1 := 38) (L1 := [some (.ref 123), some (.int n), some (.int at_), some (.int v2), some (.int v5), some (.int v7)]) (st1 := [.int 0]) (s1 := s) rfl ?_
      exact UP.ret (r := some (.int 0)) rfl ⟨by subst e7 e5 e2; rfl, by subst e7 e5 e2; rfl⟩
def W_readsCrew : List (Nat × Nat × Option Nat) := [(126, 127, none), (123, 123, some 2)]
def B_readsCrew_7  (i1 : Nat) (a1 : SG × Int32) : (SG × Int32) ⊕ (Int32 × SG) := bif m_cmp .lt a1.2 (a1.1 124 0) then (let z2 := F_readsRower a1.1 (Int32.ofNat i1) a1.2; bif m_cmp .ge z2.1 2 then (bif m_cmp .ne (a1.2 + 2) (z2.2 124 0) then (bif m_cmp .eq (F_byteAt_0 z2.2 (a1.2 + 2)) 59 then (.inl (z2.2, (a1.2 + 2) + 1)) else (.inr (a1.2 + 2, z2.2))) else (.inr ((-1), (uset z2.2 123 2 ((Int32.ofNat i1) + 1))))) else (.inr (a1.2 + z2.1, z2.2))) else (bif m_cmp .le a1.2 0 then (.inr ((-1), a1.1)) else (let z4 := F_readsRower a1.1 (Int32.ofNat i1) a1.2; bif m_cmp .ge z4.1 2 then (bif m_cmp .ne (a1.2 + 2) (z4.2 124 0) then (bif m_cmp .eq (F_byteAt_0 z4.2 (a1.2 + 2)) 59 then (.inl (z4.2, (a1.2 + 2) + 1)) else (.inr (a1.2 + 2, z4.2))) else (.inr ((-1), (uset z4.2 123 2 ((Int32.ofNat i1) + 1))))) else (.inr (a1.2 + z4.1, z4.2))))
theorem fr_B_readsCrew_7  (i1 : Nat) (a1 : SG × Int32)  : Fr W_readsCrew a1.1 (Sum.elim (fun x : SG × Int32 => x.1) (fun x : Int32 × SG => x.2) ((B_readsCrew_7) i1 a1)) := (Fr.bifp (Sum.elim (fun x : SG × Int32 => x.1) (fun x : Int32 × SG => x.2)) (Fr.bifp (Sum.elim (fun x : SG × Int32 => x.1) (fun x : Int32 × SG => x.2)) (Fr.bifp (Sum.elim (fun x : SG × Int32 => x.1) (fun x : Int32 × SG => x.2)) (Fr.bifp (Sum.elim (fun x : SG × Int32 => x.1) (fun x : Int32 × SG => x.2)) (Fr.tr (Fr.rf _ _) (Fr.wk (W2 := W_readsCrew) (fr_readsRower _ _ _) (by rfl))) (Fr.tr (Fr.rf _ _) (Fr.wk (W2 := W_readsCrew) (fr_readsRower _ _ _) (by rfl)))) (Fr.uset (by rfl) (Fr.tr (Fr.rf _ _) (Fr.wk (W2 := W_readsCrew) (fr_readsRower _ _ _) (by rfl))))) (Fr.tr (Fr.rf _ _) (Fr.wk (W2 := W_readsCrew) (fr_readsRower _ _ _) (by rfl)))) (Fr.bifp (Sum.elim (fun x : SG × Int32 => x.1) (fun x : Int32 × SG => x.2)) (Fr.rf _ _) (Fr.bifp (Sum.elim (fun x : SG × Int32 => x.1) (fun x : Int32 × SG => x.2)) (Fr.bifp (Sum.elim (fun x : SG × Int32 => x.1) (fun x : Int32 × SG => x.2)) (Fr.bifp (Sum.elim (fun x : SG × Int32 => x.1) (fun x : Int32 × SG => x.2)) (Fr.tr (Fr.rf _ _) (Fr.wk (W2 := W_readsCrew) (fr_readsRower _ _ _) (by rfl))) (Fr.tr (Fr.rf _ _) (Fr.wk (W2 := W_readsCrew) (fr_readsRower _ _ _) (by rfl)))) (Fr.uset (by rfl) (Fr.tr (Fr.rf _ _) (Fr.wk (W2 := W_readsCrew) (fr_readsRower _ _ _) (by rfl))))) (Fr.tr (Fr.rf _ _) (Fr.wk (W2 := W_readsCrew) (fr_readsRower _ _ _) (by rfl))))))
def F_readsCrew (s : SG)  : Int32 × SG := Sum.elim (fun _ : SG × Int32 => (0, s)) (fun x : Nat × (Int32 × SG) => x.2) (itx (B_readsCrew_7) 0 9 ((uset s 123 2 0), (0 : Int32)))
theorem fr_readsCrew (s : SG)   : Fr W_readsCrew s (F_readsCrew s).2 := (frElim (m := (fun x : Int32 × SG => x.2)) (fun z1 h => (Fr.rf _ _)) (fun x h => (by have k := frItx (W := W_readsCrew) (m1 := (fun x : SG × Int32 => x.1)) (m2 := (fun x : Int32 × SG => x.2)) (f := (B_readsCrew_7)) (9) (fun i a h => Fr.wk (W2 := W_readsCrew) (fr_B_readsCrew_7  i a ) (by rfl)) 9 0 ((uset s 123 2 0), (0 : Int32)) (by omega) (Fr.uset (by rfl) (Fr.rf _ _)); rw [h] at k; exact k)))
theorem rc_8 (x z : SG × Int32) : ¬ B_readsCrew_7 (0 + 8) x = .inl z := by
  have e : B_readsCrew_7 (0 + 8) x = (bif m_cmp .lt x.2 (x.1 124 0) then .inr (x.2 + 0, x.1) else (bif m_cmp .le x.2 0 then .inr (-1, x.1) else .inr (x.2 + 0, x.1))) := rfl
  rw [e]
  cases m_cmp .lt x.2 (x.1 124 0)
  · cases m_cmp .le x.2 0
    · exact fun h => by cases h
    · exact fun h => by cases h
  · exact fun h => by cases h
theorem ux_readsCrew (s : SG)   : UP m_X7_readsCrew 0 (m_ent 4 [.ref 123]) [] s (Qb (F_readsCrew s)) := by
  refine UP.stp 7 (i1 := 7) (L1 := [some (.ref 123), some (.int 0), some (.int 0), none]) (st1 := []) (s1 := (uset s 123 2 0)) rfl ?_
  refine lpx (fun (i1 : Nat) (a1 : SG × Int32) => ∀ (u1_3 : Option Value), UP m_X7_readsCrew 7 [some (.ref 123), some (.int (Int32.ofNat i1)), some (.int a1.2), u1_3] [] a1.1 (Qb (F_readsCrew s))) (fun (_ : Nat) (b1 : Int32 × SG) => (F_readsCrew s) = b1) (fun (_ : Nat) (a1 : SG × Int32) => Fr W_readsCrew (uset s 123 2 0) a1.1) (B_readsCrew_7) (9) (fun i1 a1 x1 hi1 g1 e => by have q := g1.tr (fr_B_readsCrew_7  i1 a1 ); rw [e] at q; exact q) (fun i1 a1 hi1 g1 kk => ?_) 9 (0) ((uset s 123 2 0), (0 : Int32)) (by omega) (Fr.rf _ _) (fun z1 e1 g1 => ?_) (fun i1 a1 b1 e1 hi1 g1 f1 => by show Sum.elim (fun _ : SG × Int32 => (0, s)) (fun x : Nat × (Int32 × SG) => x.2) (itx (B_readsCrew_7) 0 9 ((uset s 123 2 0), (0 : Int32))) = _; rw [e1]; rfl) none
  · skip
    intro u1_3
    refine UP.stp 5 (i1 := 12) (L1 := [some (.ref 123), some (.int (Int32.ofNat i1)), some (.int a1.2), u1_3]) (st1 := [.int (a1.1 124 0), .int a1.2]) (s1 := a1.1) rfl ?_
    refine brk (K := (Kx (fun (i1 : Nat) (a1 : SG × Int32) => ∀ (u1_3 : Option Value), UP m_X7_readsCrew 7 [some (.ref 123), some (.int (Int32.ofNat i1)), some (.int a1.2), u1_3] [] a1.1 (Qb (F_readsCrew s))) (fun (_ : Nat) (b1 : Int32 × SG) => (F_readsCrew s) = b1) i1)) (m_cmp .lt a1.2 (a1.1 124 0)) (let z2 := F_readsRower a1.1 (Int32.ofNat i1) a1.2; bif m_cmp .ge z2.1 2 then (bif m_cmp .ne (a1.2 + 2) (z2.2 124 0) then (bif m_cmp .eq (F_byteAt_0 z2.2 (a1.2 + 2)) 59 then (.inl (z2.2, (a1.2 + 2) + 1)) else (.inr (a1.2 + 2, z2.2))) else (.inr ((-1), (uset z2.2 123 2 ((Int32.ofNat i1) + 1))))) else (.inr (a1.2 + z2.1, z2.2))) (bif m_cmp .le a1.2 0 then (.inr ((-1), a1.1)) else (let z4 := F_readsRower a1.1 (Int32.ofNat i1) a1.2; bif m_cmp .ge z4.1 2 then (bif m_cmp .ne (a1.2 + 2) (z4.2 124 0) then (bif m_cmp .eq (F_byteAt_0 z4.2 (a1.2 + 2)) 59 then (.inl (z4.2, (a1.2 + 2) + 1)) else (.inr (a1.2 + 2, z4.2))) else (.inr ((-1), (uset z4.2 123 2 ((Int32.ofNat i1) + 1))))) else (.inr (a1.2 + z4.1, z4.2)))) (by exact kk) (fun cc kk => ?_) (fun cc kk => ?_)
    · skip
      refine UP.icT rfl cc ?_
      refine UP.stp 3 (i1 := 18) (L1 := [some (.ref 123), some (.int (Int32.ofNat i1)), some (.int a1.2), u1_3]) (st1 := [.int a1.2, .int (Int32.ofNat i1), .ref 123]) (s1 := a1.1) rfl ?_
      refine UP.cB (M1 := m_X7_readsRower) (as := [.ref 123, .int (Int32.ofNat i1), .int a1.2]) (rest := []) (T := F_readsRower a1.1 (Int32.ofNat i1) a1.2) rfl rfl (ux_readsRower a1.1 (Int32.ofNat i1) a1.2) (fun z2 e2 => ?_)
      refine UP.stp 3 (i1 := 22) (L1 := [some (.ref 123), some (.int (Int32.ofNat i1)), some (.int a1.2), some (.int z2.1)]) (st1 := [.int 2, .int z2.1]) (s1 := z2.2) rfl ?_
      refine brk (K := (Kx (fun (i1 : Nat) (a1 : SG × Int32) => ∀ (u1_3 : Option Value), UP m_X7_readsCrew 7 [some (.ref 123), some (.int (Int32.ofNat i1)), some (.int a1.2), u1_3] [] a1.1 (Qb (F_readsCrew s))) (fun (_ : Nat) (b1 : Int32 × SG) => (F_readsCrew s) = b1) i1)) (m_cmp .ge z2.1 2) (bif m_cmp .ne (a1.2 + 2) (z2.2 124 0) then (bif m_cmp .eq (F_byteAt_0 z2.2 (a1.2 + 2)) 59 then (.inl (z2.2, (a1.2 + 2) + 1)) else (.inr (a1.2 + 2, z2.2))) else (.inr ((-1), (uset z2.2 123 2 ((Int32.ofNat i1) + 1))))) (.inr (a1.2 + z2.1, z2.2)) (by subst e2; exact kk) (fun cc kk => ?_) (fun cc kk => ?_)
      · skip
        refine UP.icT rfl cc ?_
        refine UP.stp 7 (i1 := 34) (L1 := [some (.ref 123), some (.int ((Int32.ofNat i1) + 1)), some (.int (a1.2 + 2)), some (.int z2.1)]) (st1 := [.int (z2.2 124 0), .int (a1.2 + 2)]) (s1 := z2.2) rfl ?_
        refine brk (K := (Kx (fun (i1 : Nat) (a1 : SG × Int32) => ∀ (u1_3 : Option Value), UP m_X7_readsCrew 7 [some (.ref 123), some (.int (Int32.ofNat i1)), some (.int a1.2), u1_3] [] a1.1 (Qb (F_readsCrew s))) (fun (_ : Nat) (b1 : Int32 × SG) => (F_readsCrew s) = b1) i1)) (m_cmp .ne (a1.2 + 2) (z2.2 124 0)) (bif m_cmp .eq (F_byteAt_0 z2.2 (a1.2 + 2)) 59 then (.inl (z2.2, (a1.2 + 2) + 1)) else (.inr (a1.2 + 2, z2.2))) (.inr ((-1), (uset z2.2 123 2 ((Int32.ofNat i1) + 1)))) (by subst e2; exact kk) (fun cc kk => ?_) (fun cc kk => ?_)
        · skip
          refine UP.icT rfl cc ?_
          refine UP.stp 3 (i1 := 43) (L1 := [some (.ref 123), some (.int ((Int32.ofNat i1) + 1)), some (.int (a1.2 + 2)), some (.int z2.1)]) (st1 := [.int (a1.2 + 2), .int 0, .ref 123]) (s1 := z2.2) rfl ?_
          refine UP.cI (M1 := m_X7_byteAt) (as := [.ref 123, .int 0, .int (a1.2 + 2)]) (rest := []) (T := F_byteAt_0 z2.2 (a1.2 + 2)) rfl rfl (ux_byteAt_0 z2.2 (a1.2 + 2)) ?_
          refine UP.stp 1 (i1 := 45) (L1 := [some (.ref 123), some (.int ((Int32.ofNat i1) + 1)), some (.int (a1.2 + 2)), some (.int z2.1)]) (st1 := [.int 59, .int (F_byteAt_0 z2.2 (a1.2 + 2))]) (s1 := z2.2) rfl ?_
          refine brk (K := (Kx (fun (i1 : Nat) (a1 : SG × Int32) => ∀ (u1_3 : Option Value), UP m_X7_readsCrew 7 [some (.ref 123), some (.int (Int32.ofNat i1)), some (.int a1.2), u1_3] [] a1.1 (Qb (F_readsCrew s))) (fun (_ : Nat) (b1 : Int32 × SG) => (F_readsCrew s) = b1) i1)) (m_cmp .eq (F_byteAt_0 z2.2 (a1.2 + 2)) 59) (.inl (z2.2, (a1.2 + 2) + 1)) (.inr (a1.2 + 2, z2.2)) (by subst e2; exact kk) (fun cc kk => ?_) (fun cc kk => ?_)
          · skip
            refine UP.icT rfl cc ?_
            refine UP.stp 2 (i1 := 7) (L1 := [some (.ref 123), some (.int ((Int32.ofNat i1) + 1)), some (.int ((a1.2 + 2) + 1)), some (.int z2.1)]) (st1 := []) (s1 := z2.2) rfl ?_
            subst e2
            rw [ofn_s]
            exact kk _
          · skip
            refine UP.icF rfl cc ?_
            refine UP.stp 1 (i1 := 47) (L1 := [some (.ref 123), some (.int ((Int32.ofNat i1) + 1)), some (.int (a1.2 + 2)), some (.int z2.1)]) (st1 := [.int (a1.2 + 2)]) (s1 := z2.2) rfl ?_
            have kk : (F_readsCrew s) = (a1.2 + 2, z2.2) := by subst e2; exact kk
            exact UP.ret (r := some (.int (a1.2 + 2))) rfl ⟨by rw [kk], by rw [kk]⟩
        · skip
          refine UP.icF rfl cc ?_
          refine UP.stp 4 (i1 := 39) (L1 := [some (.ref 123), some (.int ((Int32.ofNat i1) + 1)), some (.int (a1.2 + 2)), some (.int z2.1)]) (st1 := [.int (-1)]) (s1 := (uset z2.2 123 2 ((Int32.ofNat i1) + 1))) rfl ?_
          have kk : (F_readsCrew s) = ((-1), (uset z2.2 123 2 ((Int32.ofNat i1) + 1))) := by subst e2; exact kk
          exact UP.ret (r := some (.int (-1))) rfl ⟨by rw [kk], by rw [kk]⟩
      · skip
        refine UP.icF rfl cc ?_
        refine UP.stp 3 (i1 := 26) (L1 := [some (.ref 123), some (.int (Int32.ofNat i1)), some (.int a1.2), some (.int z2.1)]) (st1 := [.int (a1.2 + z2.1)]) (s1 := z2.2) rfl ?_
        have kk : (F_readsCrew s) = (a1.2 + z2.1, z2.2) := by subst e2; exact kk
        exact UP.ret (r := some (.int (a1.2 + z2.1))) rfl ⟨by rw [kk], by rw [kk]⟩
    · skip
      refine UP.icF rfl cc ?_
      refine UP.stp 1 (i1 := 14) (L1 := [some (.ref 123), some (.int (Int32.ofNat i1)), some (.int a1.2), u1_3]) (st1 := [.int a1.2]) (s1 := a1.1) rfl ?_
      refine brk (K := (Kx (fun (i1 : Nat) (a1 : SG × Int32) => ∀ (u1_3 : Option Value), UP m_X7_readsCrew 7 [some (.ref 123), some (.int (Int32.ofNat i1)), some (.int a1.2), u1_3] [] a1.1 (Qb (F_readsCrew s))) (fun (_ : Nat) (b1 : Int32 × SG) => (F_readsCrew s) = b1) i1)) (m_cmp .le a1.2 0) (.inr ((-1), a1.1)) (let z4 := F_readsRower a1.1 (Int32.ofNat i1) a1.2; bif m_cmp .ge z4.1 2 then (bif m_cmp .ne (a1.2 + 2) (z4.2 124 0) then (bif m_cmp .eq (F_byteAt_0 z4.2 (a1.2 + 2)) 59 then (.inl (z4.2, (a1.2 + 2) + 1)) else (.inr (a1.2 + 2, z4.2))) else (.inr ((-1), (uset z4.2 123 2 ((Int32.ofNat i1) + 1))))) else (.inr (a1.2 + z4.1, z4.2))) (by exact kk) (fun cc kk => ?_) (fun cc kk => ?_)
      · skip
        refine UP.ifT rfl cc ?_
        refine UP.stp 1 (i1 := 51) (L1 := [some (.ref 123), some (.int (Int32.ofNat i1)), some (.int a1.2), u1_3]) (st1 := [.int (-1)]) (s1 := a1.1) rfl ?_
        have kk : (F_readsCrew s) = ((-1), a1.1) := by exact kk
        exact UP.ret (r := some (.int (-1))) rfl ⟨by rw [kk], by rw [kk]⟩
      · skip
        refine UP.ifF rfl cc ?_
        refine UP.stp 3 (i1 := 18) (L1 := [some (.ref 123), some (.int (Int32.ofNat i1)), some (.int a1.2), u1_3]) (st1 := [.int a1.2, .int (Int32.ofNat i1), .ref 123]) (s1 := a1.1) rfl ?_
        refine UP.cB (M1 := m_X7_readsRower) (as := [.ref 123, .int (Int32.ofNat i1), .int a1.2]) (rest := []) (T := F_readsRower a1.1 (Int32.ofNat i1) a1.2) rfl rfl (ux_readsRower a1.1 (Int32.ofNat i1) a1.2) (fun z4 e4 => ?_)
        refine UP.stp 3 (i1 := 22) (L1 := [some (.ref 123), some (.int (Int32.ofNat i1)), some (.int a1.2), some (.int z4.1)]) (st1 := [.int 2, .int z4.1]) (s1 := z4.2) rfl ?_
        refine brk (K := (Kx (fun (i1 : Nat) (a1 : SG × Int32) => ∀ (u1_3 : Option Value), UP m_X7_readsCrew 7 [some (.ref 123), some (.int (Int32.ofNat i1)), some (.int a1.2), u1_3] [] a1.1 (Qb (F_readsCrew s))) (fun (_ : Nat) (b1 : Int32 × SG) => (F_readsCrew s) = b1) i1)) (m_cmp .ge z4.1 2) (bif m_cmp .ne (a1.2 + 2) (z4.2 124 0) then (bif m_cmp .eq (F_byteAt_0 z4.2 (a1.2 + 2)) 59 then (.inl (z4.2, (a1.2 + 2) + 1)) else (.inr (a1.2 + 2, z4.2))) else (.inr ((-1), (uset z4.2 123 2 ((Int32.ofNat i1) + 1))))) (.inr (a1.2 + z4.1, z4.2)) (by subst e4; exact kk) (fun cc kk => ?_) (fun cc kk => ?_)
        · skip
          refine UP.icT rfl cc ?_
          refine UP.stp 7 (i1 := 34) (L1 := [some (.ref 123), some (.int ((Int32.ofNat i1) + 1)), some (.int (a1.2 + 2)), some (.int z4.1)]) (st1 := [.int (z4.2 124 0), .int (a1.2 + 2)]) (s1 := z4.2) rfl ?_
          refine brk (K := (Kx (fun (i1 : Nat) (a1 : SG × Int32) => ∀ (u1_3 : Option Value), UP m_X7_readsCrew 7 [some (.ref 123), some (.int (Int32.ofNat i1)), some (.int a1.2), u1_3] [] a1.1 (Qb (F_readsCrew s))) (fun (_ : Nat) (b1 : Int32 × SG) => (F_readsCrew s) = b1) i1)) (m_cmp .ne (a1.2 + 2) (z4.2 124 0)) (bif m_cmp .eq (F_byteAt_0 z4.2 (a1.2 + 2)) 59 then (.inl (z4.2, (a1.2 + 2) + 1)) else (.inr (a1.2 + 2, z4.2))) (.inr ((-1), (uset z4.2 123 2 ((Int32.ofNat i1) + 1)))) (by subst e4; exact kk) (fun cc kk => ?_) (fun cc kk => ?_)
          · skip
            refine UP.icT rfl cc ?_
            refine UP.stp 3 (i1 := 43) (L1 := [some (.ref 123), some (.int ((Int32.ofNat i1) + 1)), some (.int (a1.2 + 2)), some (.int z4.1)]) (st1 := [.int (a1.2 + 2), .int 0, .ref 123]) (s1 := z4.2) rfl ?_
            refine UP.cI (M1 := m_X7_byteAt) (as := [.ref 123, .int 0, .int (a1.2 + 2)]) (rest := []) (T := F_byteAt_0 z4.2 (a1.2 + 2)) rfl rfl (ux_byteAt_0 z4.2 (a1.2 + 2)) ?_
            refine UP.stp 1 (i1 := 45) (L1 := [some (.ref 123), some (.int ((Int32.ofNat i1) + 1)), some (.int (a1.2 + 2)), some (.int z4.1)]) (st1 := [.int 59, .int (F_byteAt_0 z4.2 (a1.2 + 2))]) (s1 := z4.2) rfl ?_
            refine brk (K := (Kx (fun (i1 : Nat) (a1 : SG × Int32) => ∀ (u1_3 : Option Value), UP m_X7_readsCrew 7 [some (.ref 123), some (.int (Int32.ofNat i1)), some (.int a1.2), u1_3] [] a1.1 (Qb (F_readsCrew s))) (fun (_ : Nat) (b1 : Int32 × SG) => (F_readsCrew s) = b1) i1)) (m_cmp .eq (F_byteAt_0 z4.2 (a1.2 + 2)) 59) (.inl (z4.2, (a1.2 + 2) + 1)) (.inr (a1.2 + 2, z4.2)) (by subst e4; exact kk) (fun cc kk => ?_) (fun cc kk => ?_)
            · skip
              refine UP.icT rfl cc ?_
              refine UP.stp 2 (i1 := 7) (L1 := [some (.ref 123), some (.int ((Int32.ofNat i1) + 1)), some (.int ((a1.2 + 2) + 1)), some (.int z4.1)]) (st1 := []) (s1 := z4.2) rfl ?_
              subst e4
              rw [ofn_s]
              exact kk _
            · skip
              refine UP.icF rfl cc ?_
              refine UP.stp 1 (i1 := 47) (L1 := [some (.ref 123), some (.int ((Int32.ofNat i1) + 1)), some (.int (a1.2 + 2)), some (.int z4.1)]) (st1 := [.int (a1.2 + 2)]) (s1 := z4.2) rfl ?_
              have kk : (F_readsCrew s) = (a1.2 + 2, z4.2) := by subst e4; exact kk
              exact UP.ret (r := some (.int (a1.2 + 2))) rfl ⟨by rw [kk], by rw [kk]⟩
          · skip
            refine UP.icF rfl cc ?_
            refine UP.stp 4 (i1 := 39) (L1 := [some (.ref 123), some (.int ((Int32.ofNat i1) + 1)), some (.int (a1.2 + 2)), some (.int z4.1)]) (st1 := [.int (-1)]) (s1 := (uset z4.2 123 2 ((Int32.ofNat i1) + 1))) rfl ?_
            have kk : (F_readsCrew s) = ((-1), (uset z4.2 123 2 ((Int32.ofNat i1) + 1))) := by subst e4; exact kk
            exact UP.ret (r := some (.int (-1))) rfl ⟨by rw [kk], by rw [kk]⟩
        · skip
          refine UP.icF rfl cc ?_
          refine UP.stp 3 (i1 := 26) (L1 := [some (.ref 123), some (.int (Int32.ofNat i1)), some (.int a1.2), some (.int z4.1)]) (st1 := [.int (a1.2 + z4.1)]) (s1 := z4.2) rfl ?_
          have kk : (F_readsCrew s) = (a1.2 + z4.1, z4.2) := by subst e4; exact kk
          exact UP.ret (r := some (.int (a1.2 + z4.1))) rfl ⟨by rw [kk], by rw [kk]⟩
  · skip
    intro u1_3
    obtain ⟨x, hx⟩ := itx_last _ 8 0 _ _ e1; exact absurd hx (rc_8 x _)
def W_readsRates : List (Nat × Nat × Option Nat) := [(128, 128, none), (123, 123, some 5)]
def B_readsRates_5  (i1 : Nat) (a1 : SG) : SG := (uset a1 128 i1 2)
theorem fr_B_readsRates_5  (i1 : Nat) (a1 : SG)  (hi1 : i1 < 24) : Fr W_readsRates a1 ((B_readsRates_5) i1 a1) := (Fr.uset (by rfl) (Fr.rf _ _))
def B_readsRates_17 (z1 : SG) (i2 : Nat) (a2 : Unit) : (Unit) ⊕ (Int32 × SG) := bif m_cmp .ne (F_in z1 (F_byteAt_1 z1 (Int32.ofNat i2)) 48 51) 0 then (.inl ()) else (.inr (Int32.ofNat i2, z1))
def B_readsRates_37  (i6 : Nat) (a6 : SG) : SG := let v8 := (F_byteAt_1 a6 (Int32.ofNat i6)) - 48; (uset a6 128 i6 v8)
theorem fr_B_readsRates_37  (i6 : Nat) (a6 : SG)   : Fr W_readsRates a6 ((B_readsRates_37) i6 a6) := (Fr.uset (by rfl) (Fr.rf _ _))
def F_readsRates (s : SG)  : Int32 × SG := let z1 := itr (B_readsRates_5) 0 24 (uset s 123 5 0); Sum.elim (fun z2 : Unit => let z6 := itr (B_readsRates_37) 0 ((z1 124 1).toNatClampNeg) z1; let v9 := z6 124 1; ((-1), (uset z6 123 5 v9))) (fun x : Nat × (Int32 × SG) => x.2) (itx (B_readsRates_17 z1) 0 ((z1 124 1).toNatClampNeg) ())
theorem fr_readsRates (s : SG)   : Fr W_readsRates s (F_readsRates s).2 := (frElim (m := (fun x : Int32 × SG => x.2)) (fun z2 h => (Fr.uset (by rfl) (Fr.itr (W := W_readsRates) (m := (fun x : SG => x)) (fun i a => Fr.wk (W2 := W_readsRates) (fr_B_readsRates_37  i a ) (by rfl)) _ _ _ (frItrB (W := W_readsRates) (m := (fun x : SG => x)) 24 (fun i a h => Fr.wk (W2 := W_readsRates) (fr_B_readsRates_5  i a  h) (by rfl)) _ _ _ (by omega) (Fr.uset (by rfl) (Fr.rf _ _)))))) (fun x h => (frItrB (W := W_readsRates) (m := (fun x : SG => x)) 24 (fun i a h => Fr.wk (W2 := W_readsRates) (fr_B_readsRates_5  i a  h) (by rfl)) _ _ _ (by omega) (Fr.uset (by rfl) (Fr.rf _ _)))))
theorem ux_readsRates (s : SG)   : UP m_X7_readsRates 0 (m_ent 2 [.ref 123]) [] s (Qb (F_readsRates s)) := by
  refine UP.stp 5 (i1 := 5) (L1 := [some (.ref 123), some (.int 0)]) (st1 := []) (s1 := (uset s 123 5 0)) rfl ?_
  refine lp (fun (i1 : Nat) (a1 : SG) => UP m_X7_readsRates 5 [some (.ref 123), some (.int (Int32.ofNat i1))] [] a1 (Qb (F_readsRates s))) (fun (_ : Nat) (a1 : SG) => Fr W_readsRates (uset s 123 5 0) a1) (B_readsRates_5) (24) (fun i1 a1 hi1 g1 => g1.tr (fr_B_readsRates_5  i1 a1 hi1)) (fun i1 a1 hi1 g1 kk => ?_) 24 (0) (uset s 123 5 0) (by omega) (Fr.rf _ _) (fun z1 e1 g1 => ?_)
  · skip
    refine UP.stp 2 (i1 := 7) (L1 := [some (.ref 123), some (.int (Int32.ofNat i1))]) (st1 := [.int 24, .int (Int32.ofNat i1)]) (s1 := a1) rfl ?_
    refine UP.icF rfl (ge_F (show i1 < (24 : Int32).toNatClampNeg from hi1)) ?_
    refine UP.stp 4 (i1 := 12) (L1 := [some (.ref 123), some (.int (Int32.ofNat i1))]) (st1 := [.int 2, .int (Int32.ofNat i1), .ref 128]) (s1 := a1) rfl ?_
    refine UP.ast (e := i1) rfl rfl (by omega) ?_
    show UP m_X7_readsRates 13 [some (.ref 123), some (.int (Int32.ofNat i1))] [] (uset a1 128 i1 2) (Qb (F_readsRates s))
    refine UP.stp 2 (i1 := 5) (L1 := [some (.ref 123), some (.int ((Int32.ofNat i1) + 1))]) (st1 := []) (s1 := (uset a1 128 i1 2)) rfl ?_
    rw [ofn_s]
    exact kk
  refine UP.stp 2 (i1 := 7) (L1 := [some (.ref 123), some (.int (Int32.ofNat 24))]) (st1 := [.int 24, .int (Int32.ofNat 24)]) (s1 := z1) rfl ?_
  refine UP.icT rfl (ge_T (24 : Int32)) ?_
  refine UP.stp 2 (i1 := 17) (L1 := [some (.ref 123), some (.int 0)]) (st1 := []) (s1 := z1) rfl ?_
  refine lpx (fun (i2 : Nat) (a2 : Unit) => UP m_X7_readsRates 17 [some (.ref 123), some (.int (Int32.ofNat i2))] [] z1 (Qb (F_readsRates s))) (fun (_ : Nat) (b2 : Int32 × SG) => (F_readsRates s) = b2) (fun (_ : Nat) (a2 : Unit) => Fr W_readsRates z1 z1) (B_readsRates_17 z1) ((z1 124 1).toNatClampNeg) (fun i2 a2 x2 hi2 g2 e => g2) (fun i2 a2 hi2 g2 kk => ?_) ((z1 124 1).toNatClampNeg) (0) () (by omega) (Fr.rf _ _) (fun z2 e2 g2 => ?_) (fun i2 a2 b2 e2 hi2 g2 f2 => by subst e1; show Sum.elim (fun z2 : Unit => let z6 := itr (B_readsRates_37) 0 ((z1 124 1).toNatClampNeg) z1; let v9 := z6 124 1; ((-1), (uset z6 123 5 v9))) (fun x : Nat × (Int32 × SG) => x.2) (itx (B_readsRates_17 z1) 0 ((z1 124 1).toNatClampNeg) ()) = _; rw [e2]; rfl)
  · skip
    have hbi2 := cl_lt (z1 124 1)
    refine UP.stp 5 (i1 := 22) (L1 := [some (.ref 123), some (.int (Int32.ofNat i2))]) (st1 := [.int (z1 124 1), .int (Int32.ofNat i2)]) (s1 := z1) rfl ?_
    refine UP.icF rfl (ge_F hi2) ?_
    refine UP.stp 3 (i1 := 26) (L1 := [some (.ref 123), some (.int (Int32.ofNat i2))]) (st1 := [.int (Int32.ofNat i2), .int 1, .ref 123]) (s1 := z1) rfl ?_
    refine UP.cI (M1 := m_X7_byteAt) (as := [.ref 123, .int 1, .int (Int32.ofNat i2)]) (rest := []) (T := F_byteAt_1 z1 (Int32.ofNat i2)) rfl rfl (ux_byteAt_1 z1 (Int32.ofNat i2)) ?_
    refine UP.stp 2 (i1 := 29) (L1 := [some (.ref 123), some (.int (Int32.ofNat i2))]) (st1 := [.int 51, .int 48, .int (F_byteAt_1 z1 (Int32.ofNat i2))]) (s1 := z1) rfl ?_
    refine UP.cI (M1 := m_X7_in) (as := [.int (F_byteAt_1 z1 (Int32.ofNat i2)), .int 48, .int 51]) (rest := []) (T := F_in z1 (F_byteAt_1 z1 (Int32.ofNat i2)) 48 51) rfl rfl (ux_in z1 (F_byteAt_1 z1 (Int32.ofNat i2)) 48 51) ?_
    refine brk (K := (Kx (fun (i2 : Nat) (a2 : Unit) => UP m_X7_readsRates 17 [some (.ref 123), some (.int (Int32.ofNat i2))] [] z1 (Qb (F_readsRates s))) (fun (_ : Nat) (b2 : Int32 × SG) => (F_readsRates s) = b2) i2)) (m_cmp .ne (F_in z1 (F_byteAt_1 z1 (Int32.ofNat i2)) 48 51) 0) (.inl ()) (.inr (Int32.ofNat i2, z1)) (by exact kk) (fun cc kk => ?_) (fun cc kk => ?_)
    · skip
      refine UP.ifT rfl cc ?_
      refine UP.stp 2 (i1 := 17) (L1 := [some (.ref 123), some (.int ((Int32.ofNat i2) + 1))]) (st1 := []) (s1 := z1) rfl ?_
      rw [ofn_s]
      exact kk
    · skip
      refine UP.ifF rfl cc ?_
      refine UP.stp 1 (i1 := 32) (L1 := [some (.ref 123), some (.int (Int32.ofNat i2))]) (st1 := [.int (Int32.ofNat i2)]) (s1 := z1) rfl ?_
      have kk : (F_readsRates s) = (Int32.ofNat i2, z1) := by exact kk
      exact UP.ret (r := some (.int (Int32.ofNat i2))) rfl ⟨by rw [kk], by rw [kk]⟩
  · skip
    refine UP.eqT (let z6 := itr (B_readsRates_37) 0 ((z1 124 1).toNatClampNeg) z1; let v9 := z6 124 1; ((-1), (uset z6 123 5 v9))) (by subst e1; show Sum.elim (fun z2 : Unit => let z6 := itr (B_readsRates_37) 0 ((z1 124 1).toNatClampNeg) z1; let v9 := z6 124 1; ((-1), (uset z6 123 5 v9))) (fun x : Nat × (Int32 × SG) => x.2) (itx (B_readsRates_17 z1) 0 ((z1 124 1).toNatClampNeg) ()) = _; rw [e2]; rfl) ?_
    refine UP.stp 5 (i1 := 22) (L1 := [some (.ref 123), some (.int (Int32.ofNat ((z1 124 1).toNatClampNeg)))]) (st1 := [.int (z1 124 1), .int (Int32.ofNat ((z1 124 1).toNatClampNeg))]) (s1 := z1) rfl ?_
    refine UP.icT rfl (ge_T _) ?_
    refine UP.stp 2 (i1 := 37) (L1 := [some (.ref 123), some (.int 0)]) (st1 := []) (s1 := z1) rfl ?_
    refine lp (fun (i6 : Nat) (a6 : SG) => UP m_X7_readsRates 37 [some (.ref 123), some (.int (Int32.ofNat i6))] [] a6 (Qb (let z6 := itr (B_readsRates_37) 0 ((z1 124 1).toNatClampNeg) z1; let v9 := z6 124 1; ((-1), (uset z6 123 5 v9))))) (fun (_ : Nat) (a6 : SG) => Fr W_readsRates z1 a6) (B_readsRates_37) ((z1 124 1).toNatClampNeg) (fun i6 a6 hi6 g6 => g6.tr (fr_B_readsRates_37  i6 a6 )) (fun i6 a6 hi6 g6 kk => ?_) ((z1 124 1).toNatClampNeg) (0) z1 (by omega) (Fr.rf _ _) (fun z6 e6 g6 => ?_)
    · skip
      have hbi6 := cl_lt (z1 124 1)
      refine UP.stp 5 (i1 := 42) (L1 := [some (.ref 123), some (.int (Int32.ofNat i6))]) (st1 := [.int (a6 124 1), .int (Int32.ofNat i6)]) (s1 := a6) rfl ?_
      refine UP.icF rfl (by rw [(g6 124 1 rfl)]; exact ge_F hi6) ?_
      refine UP.stp 6 (i1 := 49) (L1 := [some (.ref 123), some (.int (Int32.ofNat i6))]) (st1 := [.int (Int32.ofNat i6), .int 1, .ref 123, .int (Int32.ofNat i6), .ref 128]) (s1 := a6) rfl ?_
      refine UP.cI (M1 := m_X7_byteAt) (as := [.ref 123, .int 1, .int (Int32.ofNat i6)]) (rest := [.int (Int32.ofNat i6), .ref 128]) (T := F_byteAt_1 a6 (Int32.ofNat i6)) rfl rfl (ux_byteAt_1 a6 (Int32.ofNat i6)) ?_
      refine UP.stp 2 (i1 := 52) (L1 := [some (.ref 123), some (.int (Int32.ofNat i6))]) (st1 := [.int ((F_byteAt_1 a6 (Int32.ofNat i6)) - 48), .int (Int32.ofNat i6), .ref 128]) (s1 := a6) rfl ?_
      refine nm (G := fun v8 => UP m_X7_readsRates 52 [some (.ref 123), some (.int (Int32.ofNat i6))] [.int v8, .int (Int32.ofNat i6), .ref 128] a6 (Qb (let z6 := itr (B_readsRates_37) 0 ((z1 124 1).toNatClampNeg) z1; let v9 := z6 124 1; ((-1), (uset z6 123 5 v9))))) ((F_byteAt_1 a6 (Int32.ofNat i6)) - 48) (fun v8 e8 => ?_)
      refine UP.ast (e := i6) rfl rfl (by omega) ?_
      show UP m_X7_readsRates 53 [some (.ref 123), some (.int (Int32.ofNat i6))] [] (uset a6 128 i6 v8) (Qb (let z6 := itr (B_readsRates_37) 0 ((z1 124 1).toNatClampNeg) z1; let v9 := z6 124 1; ((-1), (uset z6 123 5 v9))))
      refine UP.stp 2 (i1 := 37) (L1 := [some (.ref 123), some (.int ((Int32.ofNat i6) + 1))]) (st1 := []) (s1 := (uset a6 128 i6 v8)) rfl ?_
      subst e8
      rw [ofn_s]
      exact kk
    refine UP.stp 5 (i1 := 42) (L1 := [some (.ref 123), some (.int (Int32.ofNat ((z1 124 1).toNatClampNeg)))]) (st1 := [.int (z6 124 1), .int (Int32.ofNat ((z1 124 1).toNatClampNeg))]) (s1 := z6) rfl ?_
    refine UP.icT rfl (by rw [(g6 124 1 rfl)]; exact ge_T _) ?_
    refine UP.stp 5 (i1 := 60) (L1 := [some (.ref 123), some (.int (Int32.ofNat ((z1 124 1).toNatClampNeg)))]) (st1 := [.int (z6 124 1), .ref 123]) (s1 := z6) rfl ?_
    refine nm (G := fun v9 => UP m_X7_readsRates 60 [some (.ref 123), some (.int (Int32.ofNat ((z1 124 1).toNatClampNeg)))] [.int v9, .ref 123] z6 (Qb (let z6 := itr (B_readsRates_37) 0 ((z1 124 1).toNatClampNeg) z1; let v9 := z6 124 1; ((-1), (uset z6 123 5 v9))))) (z6 124 1) (fun v9 e9 => ?_)
    refine UP.stp 2 (i1 := 62) (L1 := [some (.ref 123), some (.int (Int32.ofNat ((z1 124 1).toNatClampNeg)))]) (st1 := [.int (-1)]) (s1 := (uset z6 123 5 v9)) rfl ?_
    exact UP.ret (r := some (.int (-1))) rfl ⟨by subst e9 e6 e1; rfl, by subst e9 e6 e1; rfl⟩
def W_rudderBy : List (Nat × Nat × Option Nat) := []
def F_rudderBy (s : SG) (b : Int32) : Int32 := let v3 := bif m_cmp .ne b 45 then (bif m_cmp .ne b 108 then (bif m_cmp .ne b 114 then (-1 : Int32) else (2 : Int32)) else (1 : Int32)) else (0 : Int32); v3
theorem ux_rudderBy (s : SG) (b : Int32)  : UP m_X7_rudderBy 0 (m_ent 1 [.int b]) [] s (Qi s (F_rudderBy s b)) := by
  refine UP.stp 2 (i1 := 2) (L1 := [some (.int b)]) (st1 := [.int 45, .int b]) (s1 := s) rfl ?_
  refine mrg (m_cmp .ne b 45) (bif m_cmp .ne b 108 then (bif m_cmp .ne b 114 then (-1 : Int32) else (2 : Int32)) else (1 : Int32)) (0 : Int32) (fun v3 : Int32 => UP m_X7_rudderBy 16 [some (.int b)] [.int v3] s (Qi s (F_rudderBy s b))) (fun cc kk => ?_) (fun cc kk => ?_) (fun v3 e3 => ?_)
  · skip
    refine UP.icT rfl cc ?_
    refine UP.stp 2 (i1 := 7) (L1 := [some (.int b)]) (st1 := [.int 108, .int b]) (s1 := s) rfl ?_
    refine mrg (m_cmp .ne b 108) (bif m_cmp .ne b 114 then (-1 : Int32) else (2 : Int32)) (1 : Int32) (fun v2 : Int32 => UP m_X7_rudderBy 16 [some (.int b)] [.int v2] s (Qi s (F_rudderBy s b))) (fun cc kk => ?_) (fun cc kk => ?_) (fun v2 e2 => ?_)
    · skip
      refine UP.icT rfl cc ?_
      refine UP.stp 2 (i1 := 12) (L1 := [some (.int b)]) (st1 := [.int 114, .int b]) (s1 := s) rfl ?_
      refine mrg (m_cmp .ne b 114) (-1 : Int32) (2 : Int32) (fun v1 : Int32 => UP m_X7_rudderBy 16 [some (.int b)] [.int v1] s (Qi s (F_rudderBy s b))) (fun cc kk => ?_) (fun cc kk => ?_) (fun v1 e1 => ?_)
      · skip
        refine UP.icT rfl cc ?_
        refine UP.stp 1 (i1 := 16) (L1 := [some (.int b)]) (st1 := [.int (-1)]) (s1 := s) rfl ?_
        exact kk
      · skip
        refine UP.icF rfl cc ?_
        refine UP.stp 2 (i1 := 16) (L1 := [some (.int b)]) (st1 := [.int 2]) (s1 := s) rfl ?_
        exact kk
      subst e1
      exact kk
    · skip
      refine UP.icF rfl cc ?_
      refine UP.stp 2 (i1 := 16) (L1 := [some (.int b)]) (st1 := [.int 1]) (s1 := s) rfl ?_
      exact kk
    subst e2
    exact kk
  · skip
    refine UP.icF rfl cc ?_
    refine UP.stp 2 (i1 := 16) (L1 := [some (.int b)]) (st1 := [.int 0]) (s1 := s) rfl ?_
    exact kk
  exact UP.ret (r := some (.int v3)) rfl ⟨by subst e3; rfl, by subst e3; rfl⟩
def W_readsRudder : List (Nat × Nat × Option Nat) := [(129, 129, none), (123, 123, some 7)]
def B_readsRudder_5  (i1 : Nat) (a1 : SG) : SG := (uset a1 129 i1 0)
theorem fr_B_readsRudder_5  (i1 : Nat) (a1 : SG)  (hi1 : i1 < 24) : Fr W_readsRudder a1 ((B_readsRudder_5) i1 a1) := (Fr.uset (by rfl) (Fr.rf _ _))
def B_readsRudder_17 (z1 : SG) (i2 : Nat) (a2 : Unit) : (Unit) ⊕ (Int32 × SG) := bif m_cmp .ne (F_rudderBy z1 (F_byteAt_2 z1 (Int32.ofNat i2))) (-1) then (.inl ()) else (.inr (Int32.ofNat i2, z1))
def B_readsRudder_36  (i6 : Nat) (a6 : SG) : SG := let v9 := F_rudderBy a6 (F_byteAt_2 a6 (Int32.ofNat i6)); (uset a6 129 i6 v9)
theorem fr_B_readsRudder_36  (i6 : Nat) (a6 : SG)   : Fr W_readsRudder a6 ((B_readsRudder_36) i6 a6) := (Fr.uset (by rfl) (Fr.rf _ _))
def F_readsRudder (s : SG)  : Int32 × SG := let z1 := itr (B_readsRudder_5) 0 24 (uset s 123 7 0); Sum.elim (fun z2 : Unit => let z6 := itr (B_readsRudder_36) 0 ((z1 124 2).toNatClampNeg) z1; let v10 := z6 124 2; ((-1), (uset z6 123 7 v10))) (fun x : Nat × (Int32 × SG) => x.2) (itx (B_readsRudder_17 z1) 0 ((z1 124 2).toNatClampNeg) ())
theorem fr_readsRudder (s : SG)   : Fr W_readsRudder s (F_readsRudder s).2 := (frElim (m := (fun x : Int32 × SG => x.2)) (fun z2 h => (Fr.uset (by rfl) (Fr.itr (W := W_readsRudder) (m := (fun x : SG => x)) (fun i a => Fr.wk (W2 := W_readsRudder) (fr_B_readsRudder_36  i a ) (by rfl)) _ _ _ (frItrB (W := W_readsRudder) (m := (fun x : SG => x)) 24 (fun i a h => Fr.wk (W2 := W_readsRudder) (fr_B_readsRudder_5  i a  h) (by rfl)) _ _ _ (by omega) (Fr.uset (by rfl) (Fr.rf _ _)))))) (fun x h => (frItrB (W := W_readsRudder) (m := (fun x : SG => x)) 24 (fun i a h => Fr.wk (W2 := W_readsRudder) (fr_B_readsRudder_5  i a  h) (by rfl)) _ _ _ (by omega) (Fr.uset (by rfl) (Fr.rf _ _)))))
theorem ux_readsRudder (s : SG)   : UP m_X7_readsRudder 0 (m_ent 2 [.ref 123]) [] s (Qb (F_readsRudder s)) := by
  refine UP.stp 5 (i1 := 5) (L1 := [some (.ref 123), some (.int 0)]) (st1 := []) (s1 := (uset s 123 7 0)) rfl ?_
  refine lp (fun (i1 : Nat) (a1 : SG) => UP m_X7_readsRudder 5 [some (.ref 123), some (.int (Int32.ofNat i1))] [] a1 (Qb (F_readsRudder s))) (fun (_ : Nat) (a1 : SG) => Fr W_readsRudder (uset s 123 7 0) a1) (B_readsRudder_5) (24) (fun i1 a1 hi1 g1 => g1.tr (fr_B_readsRudder_5  i1 a1 hi1)) (fun i1 a1 hi1 g1 kk => ?_) 24 (0) (uset s 123 7 0) (by omega) (Fr.rf _ _) (fun z1 e1 g1 => ?_)
  · skip
    refine UP.stp 2 (i1 := 7) (L1 := [some (.ref 123), some (.int (Int32.ofNat i1))]) (st1 := [.int 24, .int (Int32.ofNat i1)]) (s1 := a1) rfl ?_
    refine UP.icF rfl (ge_F (show i1 < (24 : Int32).toNatClampNeg from hi1)) ?_
    refine UP.stp 4 (i1 := 12) (L1 := [some (.ref 123), some (.int (Int32.ofNat i1))]) (st1 := [.int 0, .int (Int32.ofNat i1), .ref 129]) (s1 := a1) rfl ?_
    refine UP.ast (e := i1) rfl rfl (by omega) ?_
    show UP m_X7_readsRudder 13 [some (.ref 123), some (.int (Int32.ofNat i1))] [] (uset a1 129 i1 0) (Qb (F_readsRudder s))
    refine UP.stp 2 (i1 := 5) (L1 := [some (.ref 123), some (.int ((Int32.ofNat i1) + 1))]) (st1 := []) (s1 := (uset a1 129 i1 0)) rfl ?_
    rw [ofn_s]
    exact kk
  refine UP.stp 2 (i1 := 7) (L1 := [some (.ref 123), some (.int (Int32.ofNat 24))]) (st1 := [.int 24, .int (Int32.ofNat 24)]) (s1 := z1) rfl ?_
  refine UP.icT rfl (ge_T (24 : Int32)) ?_
  refine UP.stp 2 (i1 := 17) (L1 := [some (.ref 123), some (.int 0)]) (st1 := []) (s1 := z1) rfl ?_
  refine lpx (fun (i2 : Nat) (a2 : Unit) => UP m_X7_readsRudder 17 [some (.ref 123), some (.int (Int32.ofNat i2))] [] z1 (Qb (F_readsRudder s))) (fun (_ : Nat) (b2 : Int32 × SG) => (F_readsRudder s) = b2) (fun (_ : Nat) (a2 : Unit) => Fr W_readsRudder z1 z1) (B_readsRudder_17 z1) ((z1 124 2).toNatClampNeg) (fun i2 a2 x2 hi2 g2 e => g2) (fun i2 a2 hi2 g2 kk => ?_) ((z1 124 2).toNatClampNeg) (0) () (by omega) (Fr.rf _ _) (fun z2 e2 g2 => ?_) (fun i2 a2 b2 e2 hi2 g2 f2 => by subst e1; show Sum.elim (fun z2 : Unit => let z6 := itr (B_readsRudder_36) 0 ((z1 124 2).toNatClampNeg) z1; let v10 := z6 124 2; ((-1), (uset z6 123 7 v10))) (fun x : Nat × (Int32 × SG) => x.2) (itx (B_readsRudder_17 z1) 0 ((z1 124 2).toNatClampNeg) ()) = _; rw [e2]; rfl)
  · skip
    have hbi2 := cl_lt (z1 124 2)
    refine UP.stp 5 (i1 := 22) (L1 := [some (.ref 123), some (.int (Int32.ofNat i2))]) (st1 := [.int (z1 124 2), .int (Int32.ofNat i2)]) (s1 := z1) rfl ?_
    refine UP.icF rfl (ge_F hi2) ?_
    refine UP.stp 3 (i1 := 26) (L1 := [some (.ref 123), some (.int (Int32.ofNat i2))]) (st1 := [.int (Int32.ofNat i2), .int 2, .ref 123]) (s1 := z1) rfl ?_
    refine UP.cI (M1 := m_X7_byteAt) (as := [.ref 123, .int 2, .int (Int32.ofNat i2)]) (rest := []) (T := F_byteAt_2 z1 (Int32.ofNat i2)) rfl rfl (ux_byteAt_2 z1 (Int32.ofNat i2)) ?_
    refine UP.cI (M1 := m_X7_rudderBy) (as := [.int (F_byteAt_2 z1 (Int32.ofNat i2))]) (rest := []) (T := F_rudderBy z1 (F_byteAt_2 z1 (Int32.ofNat i2))) rfl rfl (ux_rudderBy z1 (F_byteAt_2 z1 (Int32.ofNat i2))) ?_
    refine UP.stp 1 (i1 := 29) (L1 := [some (.ref 123), some (.int (Int32.ofNat i2))]) (st1 := [.int (-1), .int (F_rudderBy z1 (F_byteAt_2 z1 (Int32.ofNat i2)))]) (s1 := z1) rfl ?_
    refine brk (K := (Kx (fun (i2 : Nat) (a2 : Unit) => UP m_X7_readsRudder 17 [some (.ref 123), some (.int (Int32.ofNat i2))] [] z1 (Qb (F_readsRudder s))) (fun (_ : Nat) (b2 : Int32 × SG) => (F_readsRudder s) = b2) i2)) (m_cmp .ne (F_rudderBy z1 (F_byteAt_2 z1 (Int32.ofNat i2))) (-1)) (.inl ()) (.inr (Int32.ofNat i2, z1)) (by exact kk) (fun cc kk => ?_) (fun cc kk => ?_)
    · skip
      refine UP.icT rfl cc ?_
      refine UP.stp 2 (i1 := 17) (L1 := [some (.ref 123), some (.int ((Int32.ofNat i2) + 1))]) (st1 := []) (s1 := z1) rfl ?_
      rw [ofn_s]
      exact kk
    · skip
      refine UP.icF rfl cc ?_
      refine UP.stp 1 (i1 := 31) (L1 := [some (.ref 123), some (.int (Int32.ofNat i2))]) (st1 := [.int (Int32.ofNat i2)]) (s1 := z1) rfl ?_
      have kk : (F_readsRudder s) = (Int32.ofNat i2, z1) := by exact kk
      exact UP.ret (r := some (.int (Int32.ofNat i2))) rfl ⟨by rw [kk], by rw [kk]⟩
  · skip
    refine UP.eqT (let z6 := itr (B_readsRudder_36) 0 ((z1 124 2).toNatClampNeg) z1; let v10 := z6 124 2; ((-1), (uset z6 123 7 v10))) (by subst e1; show Sum.elim (fun z2 : Unit => let z6 := itr (B_readsRudder_36) 0 ((z1 124 2).toNatClampNeg) z1; let v10 := z6 124 2; ((-1), (uset z6 123 7 v10))) (fun x : Nat × (Int32 × SG) => x.2) (itx (B_readsRudder_17 z1) 0 ((z1 124 2).toNatClampNeg) ()) = _; rw [e2]; rfl) ?_
    refine UP.stp 5 (i1 := 22) (L1 := [some (.ref 123), some (.int (Int32.ofNat ((z1 124 2).toNatClampNeg)))]) (st1 := [.int (z1 124 2), .int (Int32.ofNat ((z1 124 2).toNatClampNeg))]) (s1 := z1) rfl ?_
    refine UP.icT rfl (ge_T _) ?_
    refine UP.stp 2 (i1 := 36) (L1 := [some (.ref 123), some (.int 0)]) (st1 := []) (s1 := z1) rfl ?_
    refine lp (fun (i6 : Nat) (a6 : SG) => UP m_X7_readsRudder 36 [some (.ref 123), some (.int (Int32.ofNat i6))] [] a6 (Qb (let z6 := itr (B_readsRudder_36) 0 ((z1 124 2).toNatClampNeg) z1; let v10 := z6 124 2; ((-1), (uset z6 123 7 v10))))) (fun (_ : Nat) (a6 : SG) => Fr W_readsRudder z1 a6) (B_readsRudder_36) ((z1 124 2).toNatClampNeg) (fun i6 a6 hi6 g6 => g6.tr (fr_B_readsRudder_36  i6 a6 )) (fun i6 a6 hi6 g6 kk => ?_) ((z1 124 2).toNatClampNeg) (0) z1 (by omega) (Fr.rf _ _) (fun z6 e6 g6 => ?_)
    · skip
      have hbi6 := cl_lt (z1 124 2)
      refine UP.stp 5 (i1 := 41) (L1 := [some (.ref 123), some (.int (Int32.ofNat i6))]) (st1 := [.int (a6 124 2), .int (Int32.ofNat i6)]) (s1 := a6) rfl ?_
      refine UP.icF rfl (by rw [(g6 124 2 rfl)]; exact ge_F hi6) ?_
      refine UP.stp 6 (i1 := 48) (L1 := [some (.ref 123), some (.int (Int32.ofNat i6))]) (st1 := [.int (Int32.ofNat i6), .int 2, .ref 123, .int (Int32.ofNat i6), .ref 129]) (s1 := a6) rfl ?_
      refine UP.cI (M1 := m_X7_byteAt) (as := [.ref 123, .int 2, .int (Int32.ofNat i6)]) (rest := [.int (Int32.ofNat i6), .ref 129]) (T := F_byteAt_2 a6 (Int32.ofNat i6)) rfl rfl (ux_byteAt_2 a6 (Int32.ofNat i6)) ?_
      refine UP.cI (M1 := m_X7_rudderBy) (as := [.int (F_byteAt_2 a6 (Int32.ofNat i6))]) (rest := [.int (Int32.ofNat i6), .ref 129]) (T := F_rudderBy a6 (F_byteAt_2 a6 (Int32.ofNat i6))) rfl rfl (ux_rudderBy a6 (F_byteAt_2 a6 (Int32.ofNat i6))) ?_
      refine nm (G := fun v9 => UP m_X7_readsRudder 50 [some (.ref 123), some (.int (Int32.ofNat i6))] [.int v9, .int (Int32.ofNat i6), .ref 129] a6 (Qb (let z6 := itr (B_readsRudder_36) 0 ((z1 124 2).toNatClampNeg) z1; let v10 := z6 124 2; ((-1), (uset z6 123 7 v10))))) (F_rudderBy a6 (F_byteAt_2 a6 (Int32.ofNat i6))) (fun v9 e9 => ?_)
      refine UP.ast (e := i6) rfl rfl (by omega) ?_
      show UP m_X7_readsRudder 51 [some (.ref 123), some (.int (Int32.ofNat i6))] [] (uset a6 129 i6 v9) (Qb (let z6 := itr (B_readsRudder_36) 0 ((z1 124 2).toNatClampNeg) z1; let v10 := z6 124 2; ((-1), (uset z6 123 7 v10))))
      refine UP.stp 2 (i1 := 36) (L1 := [some (.ref 123), some (.int ((Int32.ofNat i6) + 1))]) (st1 := []) (s1 := (uset a6 129 i6 v9)) rfl ?_
      subst e9
      rw [ofn_s]
      exact kk
    refine UP.stp 5 (i1 := 41) (L1 := [some (.ref 123), some (.int (Int32.ofNat ((z1 124 2).toNatClampNeg)))]) (st1 := [.int (z6 124 2), .int (Int32.ofNat ((z1 124 2).toNatClampNeg))]) (s1 := z6) rfl ?_
    refine UP.icT rfl (by rw [(g6 124 2 rfl)]; exact ge_T _) ?_
    refine UP.stp 5 (i1 := 58) (L1 := [some (.ref 123), some (.int (Int32.ofNat ((z1 124 2).toNatClampNeg)))]) (st1 := [.int (z6 124 2), .ref 123]) (s1 := z6) rfl ?_
    refine nm (G := fun v10 => UP m_X7_readsRudder 58 [some (.ref 123), some (.int (Int32.ofNat ((z1 124 2).toNatClampNeg)))] [.int v10, .ref 123] z6 (Qb (let z6 := itr (B_readsRudder_36) 0 ((z1 124 2).toNatClampNeg) z1; let v10 := z6 124 2; ((-1), (uset z6 123 7 v10))))) (z6 124 2) (fun v10 e10 => ?_)
    refine UP.stp 2 (i1 := 60) (L1 := [some (.ref 123), some (.int (Int32.ofNat ((z1 124 2).toNatClampNeg)))]) (st1 := [.int (-1)]) (s1 := (uset z6 123 7 v10)) rfl ?_
    exact UP.ret (r := some (.int (-1))) rfl ⟨by subst e10 e6 e1; rfl, by subst e10 e6 e1; rfl⟩
def W_faultOf : List (Nat × Nat × Option Nat) := [(126, 129, none), (123, 123, some 2), (123, 123, some 5), (123, 123, some 7)]
def F_faultOf (s : SG) (text : Int32) : Int32 × SG := let z1 := F_readsCrew s ; let z2 := F_readsRates z1.2 ; let z3 := F_readsRudder z2.2 ; let v5 := bif m_cmp .ne text 0 then (bif m_cmp .ne text 1 then z3.1 else z2.1) else z1.1; (v5, z3.2)
theorem fr_faultOf (s : SG) (text : Int32)  : Fr W_faultOf s (F_faultOf s text).2 := (Fr.tr (Fr.tr (Fr.tr (Fr.rf _ _) (Fr.wk (W2 := W_faultOf) (fr_readsCrew _) (by rfl))) (Fr.wk (W2 := W_faultOf) (fr_readsRates _) (by rfl))) (Fr.wk (W2 := W_faultOf) (fr_readsRudder _) (by rfl)))
theorem ux_faultOf (s : SG) (text : Int32)  : UP m_X7_faultOf 0 (m_ent 5 [.ref 123, .int text]) [] s (Qb (F_faultOf s text)) := by
  refine UP.stp 1 (i1 := 1) (L1 := [some (.ref 123), some (.int text), none, none, none]) (st1 := [.ref 123]) (s1 := s) rfl ?_
  refine UP.cB (M1 := m_X7_readsCrew) (as := [.ref 123]) (rest := []) (T := F_readsCrew s ) rfl rfl (ux_readsCrew s ) (fun z1 e1 => ?_)
  refine UP.stp 2 (i1 := 4) (L1 := [some (.ref 123), some (.int text), some (.int z1.1), none, none]) (st1 := [.ref 123]) (s1 := z1.2) rfl ?_
  refine UP.cB (M1 := m_X7_readsRates) (as := [.ref 123]) (rest := []) (T := F_readsRates z1.2 ) rfl rfl (ux_readsRates z1.2 ) (fun z2 e2 => ?_)
  refine UP.stp 2 (i1 := 7) (L1 := [some (.ref 123), some (.int text), some (.int z1.1), some (.int z2.1), none]) (st1 := [.ref 123]) (s1 := z2.2) rfl ?_
  refine UP.cB (M1 := m_X7_readsRudder) (as := [.ref 123]) (rest := []) (T := F_readsRudder z2.2 ) rfl rfl (ux_readsRudder z2.2 ) (fun z3 e3 => ?_)
  refine UP.stp 2 (i1 := 10) (L1 := [some (.ref 123), some (.int text), some (.int z1.1), some (.int z2.1), some (.int z3.1)]) (st1 := [.int text]) (s1 := z3.2) rfl ?_
  refine mrg (m_cmp .ne text 0) (bif m_cmp .ne text 1 then z3.1 else z2.1) z1.1 (fun v5 : Int32 => UP m_X7_faultOf 19 [some (.ref 123), some (.int text), some (.int z1.1), some (.int z2.1), some (.int z3.1)] [.int v5] z3.2 (Qb (F_faultOf s text))) (fun cc kk => ?_) (fun cc kk => ?_) (fun v5 e5 => ?_)
  · skip
    refine UP.ifT rfl cc ?_
    refine UP.stp 2 (i1 := 15) (L1 := [some (.ref 123), some (.int text), some (.int z1.1), some (.int z2.1), some (.int z3.1)]) (st1 := [.int 1, .int text]) (s1 := z3.2) rfl ?_
    refine mrg (m_cmp .ne text 1) z3.1 z2.1 (fun v4 : Int32 => UP m_X7_faultOf 19 [some (.ref 123), some (.int text), some (.int z1.1), some (.int z2.1), some (.int z3.1)] [.int v4] z3.2 (Qb (F_faultOf s text))) (fun cc kk => ?_) (fun cc kk => ?_) (fun v4 e4 => ?_)
    · skip
      refine UP.icT rfl cc ?_
      refine UP.stp 1 (i1 := 19) (L1 := [some (.ref 123), some (.int text), some (.int z1.1), some (.int z2.1), some (.int z3.1)]) (st1 := [.int z3.1]) (s1 := z3.2) rfl ?_
      exact kk
    · skip
      refine UP.icF rfl cc ?_
      refine UP.stp 2 (i1 := 19) (L1 := [some (.ref 123), some (.int text), some (.int z1.1), some (.int z2.1), some (.int z3.1)]) (st1 := [.int z2.1]) (s1 := z3.2) rfl ?_
      exact kk
    subst e4
    exact kk
  · skip
    refine UP.ifF rfl cc ?_
    refine UP.stp 2 (i1 := 19) (L1 := [some (.ref 123), some (.int text), some (.int z1.1), some (.int z2.1), some (.int z3.1)]) (st1 := [.int z1.1]) (s1 := z3.2) rfl ?_
    exact kk
  exact UP.ret (r := some (.int v5)) rfl ⟨by subst e5 e3 e2 e1; rfl, by subst e5 e3 e2 e1; rfl⟩
def W_reads : List (Nat × Nat × Option Nat) := [(126, 129, none), (123, 123, some 2), (123, 123, some 5), (123, 123, some 7)]
def F_reads (s : SG)  : SG := let z1 := F_faultOf s 0; z1.2
theorem fr_reads (s : SG)   : Fr W_reads s (F_reads s) := (Fr.tr (Fr.rf _ _) (Fr.wk (W2 := W_reads) (fr_faultOf _ _) (by rfl)))
theorem ux_reads (s : SG)   : UP m_X7_reads 0 (m_ent 2 [.ref 123]) [] s (Qv (F_reads s)) := by
  refine UP.stp 2 (i1 := 2) (L1 := [some (.ref 123), none]) (st1 := [.int 0, .ref 123]) (s1 := s) rfl ?_
  refine UP.cB (M1 := m_X7_faultOf) (as := [.ref 123, .int 0]) (rest := []) (T := F_faultOf s 0) rfl rfl (ux_faultOf s 0) (fun z1 e1 => ?_)
  refine UP.stp 1 (i1 := 4) (L1 := [some (.ref 123), some (.int z1.1)]) (st1 := []) (s1 := z1.2) rfl ?_
  exact UP.ret (r := none) rfl ⟨by subst e1; rfl, by subst e1; rfl⟩
def W_isText : List (Nat × Nat × Option Nat) := []
def F_isText (s : SG) (v : Int32) : Int32 := F_in s v 0 2
theorem ux_isText (s : SG) (v : Int32)  : UP m_X7_isText 0 (m_ent 1 [.int v]) [] s (Qi s (F_isText s v)) := by
  refine UP.stp 3 (i1 := 3) (L1 := [some (.int v)]) (st1 := [.int 2, .int 0, .int v]) (s1 := s) rfl ?_
  refine UP.cI (M1 := m_X7_in) (as := [.int v, .int 0, .int 2]) (rest := []) (T := F_in s v 0 2) rfl rfl (ux_in s v 0 2) ?_
  exact UP.ret (r := some (.int (F_in s v 0 2))) rfl ⟨by rfl, by rfl⟩
def W_isMinute : List (Nat × Nat × Option Nat) := []
def F_isMinute (s : SG) (v : Int32) : Int32 := F_in s v 0 23
theorem ux_isMinute (s : SG) (v : Int32)  : UP m_X7_isMinute 0 (m_ent 1 [.int v]) [] s (Qi s (F_isMinute s v)) := by
  refine UP.stp 3 (i1 := 3) (L1 := [some (.int v)]) (st1 := [.int 23, .int 0, .int v]) (s1 := s) rfl ?_
  refine UP.cI (M1 := m_X7_in) (as := [.int v, .int 0, .int 23]) (rest := []) (T := F_in s v 0 23) rfl rfl (ux_in s v 0 23) ?_
  exact UP.ret (r := some (.int (F_in s v 0 23))) rfl ⟨by rfl, by rfl⟩
def W_isTwo : List (Nat × Nat × Option Nat) := []
def F_isTwo (s : SG) (v : Int32) : Int32 := F_in s v 0 1
theorem ux_isTwo (s : SG) (v : Int32)  : UP m_X7_isTwo 0 (m_ent 1 [.int v]) [] s (Qi s (F_isTwo s v)) := by
  refine UP.stp 3 (i1 := 3) (L1 := [some (.int v)]) (st1 := [.int 1, .int 0, .int v]) (s1 := s) rfl ?_
  refine UP.cI (M1 := m_X7_in) (as := [.int v, .int 0, .int 1]) (rest := []) (T := F_in s v 0 1) rfl rfl (ux_in s v 0 1) ?_
  exact UP.ret (r := some (.int (F_in s v 0 1))) rfl ⟨by rfl, by rfl⟩
def W_isThree : List (Nat × Nat × Option Nat) := []
def F_isThree (s : SG) (v : Int32) : Int32 := F_in s v 0 2
theorem ux_isThree (s : SG) (v : Int32)  : UP m_X7_isThree 0 (m_ent 1 [.int v]) [] s (Qi s (F_isThree s v)) := by
  refine UP.stp 3 (i1 := 3) (L1 := [some (.int v)]) (st1 := [.int 2, .int 0, .int v]) (s1 := s) rfl ?_
  refine UP.cI (M1 := m_X7_in) (as := [.int v, .int 0, .int 2]) (rest := []) (T := F_in s v 0 2) rfl rfl (ux_in s v 0 2) ?_
  exact UP.ret (r := some (.int (F_in s v 0 2))) rfl ⟨by rfl, by rfl⟩
def W_isEight : List (Nat × Nat × Option Nat) := []
def F_isEight (s : SG) (v : Int32) : Int32 := F_in s v 0 7
theorem ux_isEight (s : SG) (v : Int32)  : UP m_X7_isEight 0 (m_ent 1 [.int v]) [] s (Qi s (F_isEight s v)) := by
  refine UP.stp 3 (i1 := 3) (L1 := [some (.int v)]) (st1 := [.int 7, .int 0, .int v]) (s1 := s) rfl ?_
  refine UP.cI (M1 := m_X7_in) (as := [.int v, .int 0, .int 7]) (rest := []) (T := F_in s v 0 7) rfl rfl (ux_in s v 0 7) ?_
  exact UP.ret (r := some (.int (F_in s v 0 7))) rfl ⟨by rfl, by rfl⟩
def W_isSheet : List (Nat × Nat × Option Nat) := []
def F_isSheet (s : SG) (v : Int32) : Int32 := F_in s v 0 3
theorem ux_isSheet (s : SG) (v : Int32)  : UP m_X7_isSheet 0 (m_ent 1 [.int v]) [] s (Qi s (F_isSheet s v)) := by
  refine UP.stp 3 (i1 := 3) (L1 := [some (.int v)]) (st1 := [.int 3, .int 0, .int v]) (s1 := s) rfl ?_
  refine UP.cI (M1 := m_X7_in) (as := [.int v, .int 0, .int 3]) (rest := []) (T := F_in s v 0 3) rfl rfl (ux_in s v 0 3) ?_
  exact UP.ret (r := some (.int (F_in s v 0 3))) rfl ⟨by rfl, by rfl⟩
def W_fault : List (Nat × Nat × Option Nat) := [(126, 129, none), (123, 123, some 2), (123, 123, some 5), (123, 123, some 7)]
def F_fault (s : SG) (text : Int32) : Int32 × SG := let w3 := bif m_cmp .eq (F_isText s text) 0 then ((-2 : Int32), s) else ((F_faultOf s text).1, (F_faultOf s text).2); (w3.1, w3.2)
theorem fr_fault (s : SG) (text : Int32)  : Fr W_fault s (F_fault s text).2 := (Fr.bifp (fun x : Int32 × SG => x.2) (Fr.rf _ _) (Fr.tr (Fr.rf _ _) (Fr.wk (W2 := W_fault) (fr_faultOf _ _) (by rfl))))
theorem ux_fault (s : SG) (text : Int32)  : UP m_X7_fault 0 (m_ent 2 [.ref 123, .int text]) [] s (Qb (F_fault s text)) := by
  refine UP.stp 1 (i1 := 1) (L1 := [some (.ref 123), some (.int text)]) (st1 := [.int text]) (s1 := s) rfl ?_
  refine UP.cI (M1 := m_X7_isText) (as := [.int text]) (rest := []) (T := F_isText s text) rfl rfl (ux_isText s text) ?_
  refine mrg (m_cmp .eq (F_isText s text) 0) ((-2 : Int32), s) ((F_faultOf s text).1, (F_faultOf s text).2) (fun w3 : Int32 × SG => UP m_X7_fault 8 [some (.ref 123), some (.int text)] [.int w3.1] w3.2 (Qb (F_fault s text))) (fun cc kk => ?_) (fun cc kk => ?_) (fun w3 e3 => ?_)
  · skip
    refine UP.ifT rfl cc ?_
    refine UP.stp 1 (i1 := 8) (L1 := [some (.ref 123), some (.int text)]) (st1 := [.int (-2)]) (s1 := s) rfl ?_
    exact kk
  · skip
    refine UP.ifF rfl cc ?_
    refine UP.stp 2 (i1 := 5) (L1 := [some (.ref 123), some (.int text)]) (st1 := [.int text, .ref 123]) (s1 := s) rfl ?_
    refine UP.cB (M1 := m_X7_faultOf) (as := [.ref 123, .int text]) (rest := []) (T := F_faultOf s text) rfl rfl (ux_faultOf s text) (fun z2 e2 => ?_)
    refine UP.stp 1 (i1 := 8) (L1 := [some (.ref 123), some (.int text)]) (st1 := [.int z2.1]) (s1 := z2.2) rfl ?_
    subst e2
    exact kk
  exact UP.ret (r := some (.int w3.1)) rfl ⟨by subst e3; rfl, by subst e3; rfl⟩
def W_isRower : List (Nat × Nat × Option Nat) := [(126, 129, none), (123, 123, some 2), (123, 123, some 5), (123, 123, some 7)]
def F_isRower (s : SG) (k : Int32) : Int32 × SG := let z1 := F_reads s ; (F_in z1 k 0 ((z1 123 2) - 1), z1)
theorem fr_isRower (s : SG) (k : Int32)  : Fr W_isRower s (F_isRower s k).2 := (Fr.tr (Fr.rf _ _) (Fr.wk (W2 := W_isRower) (fr_reads _) (by rfl)))
theorem ux_isRower (s : SG) (k : Int32)  : UP m_X7_isRower 0 (m_ent 2 [.ref 123, .int k]) [] s (Qb (F_isRower s k)) := by
  refine UP.stp 1 (i1 := 1) (L1 := [some (.ref 123), some (.int k)]) (st1 := [.ref 123]) (s1 := s) rfl ?_
  refine UP.cV (M1 := m_X7_reads) (as := [.ref 123]) (rest := []) (T := F_reads s ) rfl rfl (ux_reads s ) (fun z1 e1 => ?_)
  refine UP.stp 6 (i1 := 8) (L1 := [some (.ref 123), some (.int k)]) (st1 := [.int ((z1 123 2) - 1), .int 0, .int k]) (s1 := z1) rfl ?_
  refine UP.cI (M1 := m_X7_in) (as := [.int k, .int 0, .int ((z1 123 2) - 1)]) (rest := []) (T := F_in z1 k 0 ((z1 123 2) - 1)) rfl rfl (ux_in z1 k 0 ((z1 123 2) - 1)) ?_
  exact UP.ret (r := some (.int (F_in z1 k 0 ((z1 123 2) - 1)))) rfl ⟨by subst e1; rfl, by subst e1; rfl⟩
def W_rowerOf : List (Nat × Nat × Option Nat) := []
def F_rowerOf (s : SG) (k : Int32) (what : Int32) : Int32 := let v1 := bif m_cmp .ne what 0 then s 127 k.toNatClampNeg else s 126 k.toNatClampNeg; v1
theorem ux_rowerOf (s : SG) (k : Int32) (what : Int32)  : UP m_X7_rowerOf 0 (m_ent 3 [.ref 123, .int k, .int what]) [] s (Qi s (F_rowerOf s k what)) := by
  refine UP.stp 1 (i1 := 1) (L1 := [some (.ref 123), some (.int k), some (.int what)]) (st1 := [.int what]) (s1 := s) rfl ?_
  refine mrg (m_cmp .ne what 0) (s 127 k.toNatClampNeg) (s 126 k.toNatClampNeg) (fun v1 : Int32 => UP m_X7_rowerOf 11 [some (.ref 123), some (.int k), some (.int what)] [.int v1] s (Qi s (F_rowerOf s k what))) (fun cc kk => ?_) (fun cc kk => ?_) (fun v1 e1 => ?_)
  · skip
    refine UP.ifT rfl cc ?_
    refine UP.stp 4 (i1 := 11) (L1 := [some (.ref 123), some (.int k), some (.int what)]) (st1 := [.int (s 127 k.toNatClampNeg)]) (s1 := s) rfl ?_
    exact kk
  · skip
    refine UP.ifF rfl cc ?_
    refine UP.stp 5 (i1 := 11) (L1 := [some (.ref 123), some (.int k), some (.int what)]) (st1 := [.int (s 126 k.toNatClampNeg)]) (s1 := s) rfl ?_
    exact kk
  exact UP.ret (r := some (.int v1)) rfl ⟨by subst e1; rfl, by subst e1; rfl⟩
def W_rower : List (Nat × Nat × Option Nat) := [(126, 129, none), (123, 123, some 2), (123, 123, some 5), (123, 123, some 7)]
def F_rower (s : SG) (seat : Int32) (what : Int32) : Int32 × SG := let z1 := F_isRower s seat; let v5 := bif m_cmp .eq z1.1 0 then (-2 : Int32) else (bif m_cmp .eq (F_isTwo z1.2 what) 0 then (-2 : Int32) else F_rowerOf z1.2 seat what); (v5, z1.2)
theorem fr_rower (s : SG) (seat : Int32) (what : Int32)  : Fr W_rower s (F_rower s seat what).2 := (Fr.tr (Fr.rf _ _) (Fr.wk (W2 := W_rower) (fr_isRower _ _) (by rfl)))
theorem ux_rower (s : SG) (seat : Int32) (what : Int32)  : UP m_X7_rower 0 (m_ent 3 [.ref 123, .int seat, .int what]) [] s (Qb (F_rower s seat what)) := by
  refine UP.stp 2 (i1 := 2) (L1 := [some (.ref 123), some (.int seat), some (.int what)]) (st1 := [.int seat, .ref 123]) (s1 := s) rfl ?_
  refine UP.cB (M1 := m_X7_isRower) (as := [.ref 123, .int seat]) (rest := []) (T := F_isRower s seat) rfl rfl (ux_isRower s seat) (fun z1 e1 => ?_)
  refine mrg (m_cmp .eq z1.1 0) (-2 : Int32) (bif m_cmp .eq (F_isTwo z1.2 what) 0 then (-2 : Int32) else F_rowerOf z1.2 seat what) (fun v5 : Int32 => UP m_X7_rower 13 [some (.ref 123), some (.int seat), some (.int what)] [.int v5] z1.2 (Qb (F_rower s seat what))) (fun cc kk => ?_) (fun cc kk => ?_) (fun v5 e5 => ?_)
  · skip
    refine UP.ifT rfl cc ?_
    refine UP.stp 1 (i1 := 13) (L1 := [some (.ref 123), some (.int seat), some (.int what)]) (st1 := [.int (-2)]) (s1 := z1.2) rfl ?_
    exact kk
  · skip
    refine UP.ifF rfl cc ?_
    refine UP.stp 1 (i1 := 5) (L1 := [some (.ref 123), some (.int seat), some (.int what)]) (st1 := [.int what]) (s1 := z1.2) rfl ?_
    refine UP.cI (M1 := m_X7_isTwo) (as := [.int what]) (rest := []) (T := F_isTwo z1.2 what) rfl rfl (ux_isTwo z1.2 what) ?_
    refine mrg (m_cmp .eq (F_isTwo z1.2 what) 0) (-2 : Int32) (F_rowerOf z1.2 seat what) (fun v4 : Int32 => UP m_X7_rower 13 [some (.ref 123), some (.int seat), some (.int what)] [.int v4] z1.2 (Qb (F_rower s seat what))) (fun cc kk => ?_) (fun cc kk => ?_) (fun v4 e4 => ?_)
    · skip
      refine UP.ifT rfl cc ?_
      refine UP.stp 1 (i1 := 13) (L1 := [some (.ref 123), some (.int seat), some (.int what)]) (st1 := [.int (-2)]) (s1 := z1.2) rfl ?_
      exact kk
    · skip
      refine UP.ifF rfl cc ?_
      refine UP.stp 3 (i1 := 10) (L1 := [some (.ref 123), some (.int seat), some (.int what)]) (st1 := [.int what, .int seat, .ref 123]) (s1 := z1.2) rfl ?_
      refine UP.cI (M1 := m_X7_rowerOf) (as := [.ref 123, .int seat, .int what]) (rest := []) (T := F_rowerOf z1.2 seat what) rfl rfl (ux_rowerOf z1.2 seat what) ?_
      refine UP.stp 1 (i1 := 13) (L1 := [some (.ref 123), some (.int seat), some (.int what)]) (st1 := [.int (F_rowerOf z1.2 seat what)]) (s1 := z1.2) rfl ?_
      exact kk
    subst e4
    exact kk
  exact UP.ret (r := some (.int v5)) rfl ⟨by subst e5 e1; rfl, by subst e5 e1; rfl⟩
def W_callOf : List (Nat × Nat × Option Nat) := [(126, 129, none), (123, 123, some 2), (123, 123, some 5), (123, 123, some 7)]
def F_callOf (s : SG) (minute : Int32) (what : Int32) : Int32 × SG := let z1 := F_reads s ; let v2 := bif m_cmp .ne what 0 then z1 129 minute.toNatClampNeg else z1 128 minute.toNatClampNeg; (v2, z1)
theorem fr_callOf (s : SG) (minute : Int32) (what : Int32)  : Fr W_callOf s (F_callOf s minute what).2 := (Fr.tr (Fr.rf _ _) (Fr.wk (W2 := W_callOf) (fr_reads _) (by rfl)))
theorem ux_callOf (s : SG) (minute : Int32) (what : Int32)  : UP m_X7_callOf 0 (m_ent 3 [.ref 123, .int minute, .int what]) [] s (Qb (F_callOf s minute what)) := by
  refine UP.stp 1 (i1 := 1) (L1 := [some (.ref 123), some (.int minute), some (.int what)]) (st1 := [.ref 123]) (s1 := s) rfl ?_
  refine UP.cV (M1 := m_X7_reads) (as := [.ref 123]) (rest := []) (T := F_reads s ) rfl rfl (ux_reads s ) (fun z1 e1 => ?_)
  refine UP.stp 1 (i1 := 3) (L1 := [some (.ref 123), some (.int minute), some (.int what)]) (st1 := [.int what]) (s1 := z1) rfl ?_
  refine mrg (m_cmp .ne what 0) (z1 129 minute.toNatClampNeg) (z1 128 minute.toNatClampNeg) (fun v2 : Int32 => UP m_X7_callOf 13 [some (.ref 123), some (.int minute), some (.int what)] [.int v2] z1 (Qb (F_callOf s minute what))) (fun cc kk => ?_) (fun cc kk => ?_) (fun v2 e2 => ?_)
  · skip
    refine UP.ifT rfl cc ?_
    refine UP.stp 4 (i1 := 13) (L1 := [some (.ref 123), some (.int minute), some (.int what)]) (st1 := [.int (z1 129 minute.toNatClampNeg)]) (s1 := z1) rfl ?_
    exact kk
  · skip
    refine UP.ifF rfl cc ?_
    refine UP.stp 5 (i1 := 13) (L1 := [some (.ref 123), some (.int minute), some (.int what)]) (st1 := [.int (z1 128 minute.toNatClampNeg)]) (s1 := z1) rfl ?_
    exact kk
  exact UP.ret (r := some (.int v2)) rfl ⟨by subst e2 e1; rfl, by subst e2 e1; rfl⟩
def W_call : List (Nat × Nat × Option Nat) := [(126, 129, none), (123, 123, some 2), (123, 123, some 5), (123, 123, some 7)]
def F_call (s : SG) (minute : Int32) (what : Int32) : Int32 × SG := let w5 := bif m_cmp .eq (F_isMinute s minute) 0 then ((-2 : Int32), s) else ((bif m_cmp .eq (F_isTwo s what) 0 then ((-2 : Int32), s) else ((F_callOf s minute what).1, (F_callOf s minute what).2)).1, (bif m_cmp .eq (F_isTwo s what) 0 then ((-2 : Int32), s) else ((F_callOf s minute what).1, (F_callOf s minute what).2)).2); (w5.1, w5.2)
theorem fr_call (s : SG) (minute : Int32) (what : Int32)  : Fr W_call s (F_call s minute what).2 := (Fr.bifp (fun x : Int32 × SG => x.2) (Fr.rf _ _) (Fr.bifp (fun x : Int32 × SG => x.2) (Fr.rf _ _) (Fr.tr (Fr.rf _ _) (Fr.wk (W2 := W_call) (fr_callOf _ _ _) (by rfl)))))
theorem ux_call (s : SG) (minute : Int32) (what : Int32)  : UP m_X7_call 0 (m_ent 3 [.ref 123, .int minute, .int what]) [] s (Qb (F_call s minute what)) := by
  refine UP.stp 1 (i1 := 1) (L1 := [some (.ref 123), some (.int minute), some (.int what)]) (st1 := [.int minute]) (s1 := s) rfl ?_
  refine UP.cI (M1 := m_X7_isMinute) (as := [.int minute]) (rest := []) (T := F_isMinute s minute) rfl rfl (ux_isMinute s minute) ?_
  refine mrg (m_cmp .eq (F_isMinute s minute) 0) ((-2 : Int32), s) ((bif m_cmp .eq (F_isTwo s what) 0 then ((-2 : Int32), s) else ((F_callOf s minute what).1, (F_callOf s minute what).2)).1, (bif m_cmp .eq (F_isTwo s what) 0 then ((-2 : Int32), s) else ((F_callOf s minute what).1, (F_callOf s minute what).2)).2) (fun w5 : Int32 × SG => UP m_X7_call 12 [some (.ref 123), some (.int minute), some (.int what)] [.int w5.1] w5.2 (Qb (F_call s minute what))) (fun cc kk => ?_) (fun cc kk => ?_) (fun w5 e5 => ?_)
  · skip
    refine UP.ifT rfl cc ?_
    refine UP.stp 1 (i1 := 12) (L1 := [some (.ref 123), some (.int minute), some (.int what)]) (st1 := [.int (-2)]) (s1 := s) rfl ?_
    exact kk
  · skip
    refine UP.ifF rfl cc ?_
    refine UP.stp 1 (i1 := 4) (L1 := [some (.ref 123), some (.int minute), some (.int what)]) (st1 := [.int what]) (s1 := s) rfl ?_
    refine UP.cI (M1 := m_X7_isTwo) (as := [.int what]) (rest := []) (T := F_isTwo s what) rfl rfl (ux_isTwo s what) ?_
    refine mrg (m_cmp .eq (F_isTwo s what) 0) ((-2 : Int32), s) ((F_callOf s minute what).1, (F_callOf s minute what).2) (fun w4 : Int32 × SG => UP m_X7_call 12 [some (.ref 123), some (.int minute), some (.int what)] [.int w4.1] w4.2 (Qb (F_call s minute what))) (fun cc kk => ?_) (fun cc kk => ?_) (fun w4 e4 => ?_)
    · skip
      refine UP.ifT rfl cc ?_
      refine UP.stp 1 (i1 := 12) (L1 := [some (.ref 123), some (.int minute), some (.int what)]) (st1 := [.int (-2)]) (s1 := s) rfl ?_
      exact kk
    · skip
      refine UP.ifF rfl cc ?_
      refine UP.stp 3 (i1 := 9) (L1 := [some (.ref 123), some (.int minute), some (.int what)]) (st1 := [.int what, .int minute, .ref 123]) (s1 := s) rfl ?_
      refine UP.cB (M1 := m_X7_callOf) (as := [.ref 123, .int minute, .int what]) (rest := []) (T := F_callOf s minute what) rfl rfl (ux_callOf s minute what) (fun z3 e3 => ?_)
      refine UP.stp 1 (i1 := 12) (L1 := [some (.ref 123), some (.int minute), some (.int what)]) (st1 := [.int z3.1]) (s1 := z3.2) rfl ?_
      subst e3
      exact kk
    subst e4
    exact kk
  exact UP.ret (r := some (.int w5.1)) rfl ⟨by subst e5; rfl, by subst e5; rfl⟩
