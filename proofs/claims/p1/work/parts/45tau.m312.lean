def W_swap : List (Nat × Nat × Option Nat) := [(126, 129, none), (133, 144, none), (147, 147, none), (123, 123, some 2), (123, 123, some 5), (123, 123, some 7), (123, 123, some 17), (123, 123, some 19), (123, 123, some 20), (123, 123, some 21), (123, 123, some 22), (123, 123, some 23), (123, 123, some 24), (123, 123, some 25), (123, 123, some 26), (123, 123, some 27)]
def F_swap (s : SG) (what : Int32) : Int32 × SG := let w3 := bif m_cmp .eq (F_isThree s what) 0 then ((-2 : Int32), s) else (F_swapOf s what); w3
set_option maxRecDepth 20000 in
set_option maxHeartbeats 200000 in
theorem fr_swap (s : SG) (what : Int32)  : Fr W_swap s (F_swap s what).2 := by dsimp only [F_swap]; exact (Fr.bifp (b := m_cmp .eq (F_isThree s what) 0) (x := ((-2 : Int32), s)) (y := (F_swapOf s what)) (fun x : Int32 × SG => x.2) (by (try dsimp only); exact (Fr.rf _ _)) (by (try dsimp only); exact (Fr.tr (s1 := s) (Fr.rf _ _) (Fr.wk (W2 := W_swap) (fr_swapOf s what) (by rfl)))))
set_option maxRecDepth 20000 in
set_option maxHeartbeats 200000 in
theorem ux_swap (s : SG) (what : Int32)  : UP m_X7_swap 0 (m_ent 2 [.ref 123, .int what]) [] s (Qb (F_swap s what)) := by
  refine UP.stp 1 (i1 := 1) (L1 := [some (.ref 123), some (.int what)]) (st1 := [.int what]) (s1 := s) rfl ?_
  refine UP.cI (M1 := m_X7_isThree) (as := [.int what]) (rest := []) (T := F_isThree s what) rfl rfl (ux_isThree s what) ?_
  refine mrg (m_cmp .eq (F_isThree s what) 0) ((-2 : Int32), s) (F_swapOf s what) (fun w3 : Int32 × SG => UP m_X7_swap 8 [some (.ref 123), some (.int what)] [.int w3.1] w3.2 (Qb (F_swap s what))) (fun cc kk => ?_) (fun cc kk => ?_) (fun w3 e3 => ?_)
  · skip
    refine UP.ifT rfl cc ?_
    refine UP.stp 1 (i1 := 8) (L1 := [some (.ref 123), some (.int what)]) (st1 := [.int (-2)]) (s1 := s) rfl ?_
    exact kk
  · skip
    refine UP.ifF rfl cc ?_
    refine UP.stp 2 (i1 := 5) (L1 := [some (.ref 123), some (.int what)]) (st1 := [.int what, .ref 123]) (s1 := s) rfl ?_
    refine UP.cB (M1 := m_X7_swapOf) (as := [.ref 123, .int what]) (rest := []) (T := F_swapOf s what) rfl rfl (ux_swapOf s what) (fun z2 e2 => ?_)
    refine UP.stp 1 (i1 := 8) (L1 := [some (.ref 123), some (.int what)]) (st1 := [.int z2.1]) (s1 := z2.2) rfl ?_
    subst e2
    exact kk
  exact UP.ret (r := some (.int w3.1)) rfl ⟨by subst e3; first | (dsimp only [F_swap]; done) | (dsimp only; done) | rfl, by subst e3; first | (dsimp only [F_swap]; done) | (dsimp only; done) | rfl⟩
def W_isSeen : List (Nat × Nat × Option Nat) := [(133, 144, none), (147, 147, none), (123, 123, some 17), (123, 123, some 19), (123, 123, some 20), (123, 123, some 21), (123, 123, some 22), (123, 123, some 23), (123, 123, some 24), (123, 123, some 25), (123, 123, some 26), (123, 123, some 27)]
def B_isSeen_6 (z1 : SG) (i2 : Nat) (a2 : Int32) : (Int32) ⊕ (Int32) := bif m_cmp .eq a2 0 then (.inr a2) else (let v3 := bif m_cmp .ne (z1 140 ((z1 145 i2).toNatClampNeg)) (z1 146 i2) then (0 : Int32) else (1 : Int32); .inl v3)
def F_isSeen (s : SG)  : Int32 × SG := let z1 := F_runs s ; Sum.elim (fun z2 : Int32 => (z2, z1)) (fun w2 : Nat × (Int32) => (w2.2, z1)) (itx (B_isSeen_6 z1) 0 ((z1 123 37).toNatClampNeg) (1 : Int32))
set_option maxRecDepth 20000 in
set_option maxHeartbeats 200000 in
theorem fr_isSeen (s : SG)   : Fr W_isSeen s (F_isSeen s).2 := by dsimp only [F_isSeen]; exact (frElim (m := (fun x : Int32 × SG => x.2)) (fun z2 h => (Fr.tr (s1 := s) (Fr.rf _ _) (Fr.wk (W2 := W_isSeen) (fr_runs s ) (by rfl)))) (fun w2 h => (Fr.tr (s1 := s) (Fr.rf _ _) (Fr.wk (W2 := W_isSeen) (fr_runs s ) (by rfl)))))
set_option maxRecDepth 20000 in
set_option maxHeartbeats 200000 in
theorem ux_isSeen (s : SG)   : UP m_X7_isSeen 0 (m_ent 3 [.ref 123]) [] s (Qb (F_isSeen s)) := by
  refine UP.stp 1 (i1 := 1) (L1 := [some (.ref 123), none, none]) (st1 := [.ref 123]) (s1 := s) rfl ?_
  refine UP.cV (M1 := m_X7_runs) (as := [.ref 123]) (rest := []) (T := F_runs s ) rfl rfl (ux_runs s ) (fun z1 e1 => ?_)
  refine UP.stp 4 (i1 := 6) (L1 := [some (.ref 123), some (.int 1), some (.int 0)]) (st1 := []) (s1 := z1) rfl ?_
  refine lpx (fun (i2 : Nat) (a2 : Int32) => UP m_X7_isSeen 6 [some (.ref 123), some (.int a2), some (.int (Int32.ofNat i2))] [] z1 (Qb (F_isSeen s))) (fun (i2 : Nat) (b2 : Int32) => ∀ (u2_0 : Option Value) (u2_2 : Option Value), UP m_X7_isSeen 30 [u2_0, some (.int b2), u2_2] [] z1 (Qb (F_isSeen s))) (fun (_ : Nat) (a2 : Int32) => Fr W_isSeen z1 z1) (B_isSeen_6 z1) ((z1 123 37).toNatClampNeg) (fun i2 a2 x2 hi2 g2 e => g2) (fun i2 a2 hi2 g2 kk => ?_) ((z1 123 37).toNatClampNeg) (0) (1 : Int32) (by omega) (Fr.rf _ _) (fun z2 e2 g2 => ?_) (fun i2 a2 b2 e2 hi2 g2 f2 => ?_)
  · skip
    have hbi2 := cl_lt (z1 123 37)
    refine UP.stp 3 (i1 := 9) (L1 := [some (.ref 123), some (.int a2), some (.int (Int32.ofNat i2))]) (st1 := [.int (z1 123 37), .int (Int32.ofNat i2)]) (s1 := z1) rfl ?_
    refine UP.icF rfl (ge_F hi2) ?_
    refine UP.stp 1 (i1 := 11) (L1 := [some (.ref 123), some (.int a2), some (.int (Int32.ofNat i2))]) (st1 := [.int a2]) (s1 := z1) rfl ?_
    refine brk (K := (Kx (fun (i2 : Nat) (a2 : Int32) => UP m_X7_isSeen 6 [some (.ref 123), some (.int a2), some (.int (Int32.ofNat i2))] [] z1 (Qb (F_isSeen s))) (fun (i2 : Nat) (b2 : Int32) => ∀ (u2_0 : Option Value) (u2_2 : Option Value), UP m_X7_isSeen 30 [u2_0, some (.int b2), u2_2] [] z1 (Qb (F_isSeen s))) i2)) (m_cmp .eq a2 0) (.inr a2) (let v3 := bif m_cmp .ne (z1 140 ((z1 145 i2).toNatClampNeg)) (z1 146 i2) then (0 : Int32) else (1 : Int32); .inl v3) (by (try dsimp only [B_isSeen_6] at kk ⊢); exact kk) (fun cc kk => ?_) (fun cc kk => ?_)
    · skip
      refine UP.ifT rfl cc ?_
      exact kk _ _
    · skip
      refine UP.ifF rfl cc ?_
      refine UP.stp 5 (i1 := 17) (L1 := [some (.ref 123), some (.int a2), some (.int (Int32.ofNat i2))]) (st1 := [.int (Int32.ofNat i2), .ref 145, .ref 140]) (s1 := z1) rfl ?_
      refine UP.ald (e := i2) rfl rfl (by omega) ?_
      show UP m_X7_isSeen 18 [some (.ref 123), some (.int a2), some (.int (Int32.ofNat i2))] [.int (z1 145 i2), .ref 140] z1 (Qb (F_isSeen s))
      refine UP.stp 4 (i1 := 22) (L1 := [some (.ref 123), some (.int a2), some (.int (Int32.ofNat i2))]) (st1 := [.int (Int32.ofNat i2), .ref 146, .int (z1 140 ((z1 145 i2).toNatClampNeg))]) (s1 := z1) rfl ?_
      refine UP.ald (e := i2) rfl rfl (by omega) ?_
      show UP m_X7_isSeen 23 [some (.ref 123), some (.int a2), some (.int (Int32.ofNat i2))] [.int (z1 146 i2), .int (z1 140 ((z1 145 i2).toNatClampNeg))] z1 (Qb (F_isSeen s))
      refine mrg (m_cmp .ne (z1 140 ((z1 145 i2).toNatClampNeg)) (z1 146 i2)) (0 : Int32) (1 : Int32) (fun v3 : Int32 => UP m_X7_isSeen 27 [some (.ref 123), some (.int a2), some (.int (Int32.ofNat i2))] [.int v3] z1 (Qb (F_isSeen s))) (fun cc kk => ?_) (fun cc kk => ?_) (fun v3 e3 => ?_)
      · skip
        refine UP.icT rfl cc ?_
        refine UP.stp 1 (i1 := 27) (L1 := [some (.ref 123), some (.int a2), some (.int (Int32.ofNat i2))]) (st1 := [.int 0]) (s1 := z1) rfl ?_
        exact kk
      · skip
        refine UP.icF rfl cc ?_
        refine UP.stp 2 (i1 := 27) (L1 := [some (.ref 123), some (.int a2), some (.int (Int32.ofNat i2))]) (st1 := [.int 1]) (s1 := z1) rfl ?_
        exact kk
      refine UP.stp 3 (i1 := 6) (L1 := [some (.ref 123), some (.int v3), some (.int ((Int32.ofNat i2) + 1))]) (st1 := []) (s1 := z1) rfl ?_
      subst e3
      rw [ofn_s]
      exact kk
  · skip
    refine UP.eqT ((z2, z1)) (by have q : (F_isSeen s) = Sum.elim (fun z2 : Int32 => (z2, z1)) (fun w2 : Nat × (Int32) => (w2.2, z1)) (itx (B_isSeen_6 z1) 0 ((z1 123 37).toNatClampNeg) (1 : Int32)) := (by subst e1; first | (dsimp only [F_isSeen]; done) | (dsimp only; done) | rfl); rw [q, e2]; first | (dsimp only [Sum.elim_inl]; done) | rfl) ?_
    refine UP.stp 3 (i1 := 9) (L1 := [some (.ref 123), some (.int z2), some (.int (Int32.ofNat ((z1 123 37).toNatClampNeg)))]) (st1 := [.int (z1 123 37), .int (Int32.ofNat ((z1 123 37).toNatClampNeg))]) (s1 := z1) rfl ?_
    refine UP.icT rfl (ge_T _) ?_
    refine UP.stp 1 (i1 := 31) (L1 := [some (.ref 123), some (.int z2), some (.int (Int32.ofNat ((z1 123 37).toNatClampNeg)))]) (st1 := [.int z2]) (s1 := z1) rfl ?_
    exact UP.ret (r := some (.int z2)) rfl ⟨by subst e1; first | (dsimp only [F_isSeen]; done) | (dsimp only; done) | rfl, by subst e1; first | (dsimp only [F_isSeen]; done) | (dsimp only; done) | rfl⟩
  · skip
    intro u2_0 u2_2
    refine UP.eqT ((b2, z1)) (by have q : (F_isSeen s) = Sum.elim (fun z2 : Int32 => (z2, z1)) (fun w2 : Nat × (Int32) => (w2.2, z1)) (itx (B_isSeen_6 z1) 0 ((z1 123 37).toNatClampNeg) (1 : Int32)) := (by subst e1; first | (dsimp only [F_isSeen]; done) | (dsimp only; done) | rfl); rw [q, e2]; first | (dsimp only [Sum.elim_inr]; done) | rfl) ?_
    refine UP.stp 1 (i1 := 31) (L1 := [u2_0, some (.int b2), u2_2]) (st1 := [.int b2]) (s1 := z1) rfl ?_
    exact UP.ret (r := some (.int b2)) rfl ⟨by subst e1; first | (dsimp only [F_isSeen]; done) | (dsimp only; done) | rfl, by subst e1; first | (dsimp only [F_isSeen]; done) | (dsimp only; done) | rfl⟩
