def W_isSeen : List (Nat × Nat × Option Nat) := [(126, 129, none), (133, 144, none), (147, 147, none), (123, 123, some 2), (123, 123, some 5), (123, 123, some 7), (123, 123, some 17), (123, 123, some 19), (123, 123, some 20), (123, 123, some 21), (123, 123, some 22), (123, 123, some 23), (123, 123, some 24), (123, 123, some 25), (123, 123, some 26), (123, 123, some 27)]
def B_isSeen_6 (z1 : SG) (i2 : Nat) (a2 : Int32) : (Int32) ⊕ (Int32) := bif m_cmp .eq a2 0 then (.inr a2) else (let v3 := bif m_cmp .ne (z1 140 ((z1 145 i2).toNatClampNeg)) (z1 146 i2) then (0 : Int32) else (1 : Int32); .inl v3)
def F_isSeen (s : SG)  : Int32 × SG := let z1 := F_runs s ; Sum.elim (fun z2 : Int32 => (z2, z1)) (fun w2 : Nat × (Int32) => (w2.2, z1)) (itx (B_isSeen_6 z1) 0 ((z1 123 37).toNatClampNeg) (1 : Int32))
theorem fr_isSeen (s : SG)   : Fr W_isSeen s (F_isSeen s).2 := by dsimp only [F_isSeen]; exact (frElim (m := (fun x : Int32 × SG => x.2)) (fun z2 h => (Fr.tr (s1 := s) (Fr.rf _ _) (Fr.wk (W2 := W_isSeen) (fr_runs s ) (by rfl)))) (fun w2 h => (Fr.tr (s1 := s) (Fr.rf _ _) (Fr.wk (W2 := W_isSeen) (fr_runs s ) (by rfl)))))
theorem ux_isSeen (s : SG)   : UP m_X7_isSeen 0 (m_ent 3 [.ref 123]) [] s (Qb (F_isSeen s)) := by
  refine UP.stp 1 (i1 := 1) (L1 := [some (.ref 123), none, none]) (st1 := [.ref 123]) (s1 := s) rfl ?_
  refine UP.cV (M1 := m_X7_runs) (as := [.ref 123]) (rest := []) (T := F_runs s ) rfl rfl (ux_runs s ) (fun z1 e1 => ?_)
  refine UP.stp 4 (i1 := 6) (L1 := [some (.ref 123), some (.int 1), some (.int 0)]) (st1 := []) (s1 := z1) rfl ?_
  refine lpx (fun (i2 : Nat) (a2 : Int32) => UP m_X7_isSeen 6 [some (.ref 123), some (.int a2), some (.int (Int32.ofNat i2))] [] z1 (Qb (F_isSeen s))) (fun (i2 : Nat) (b2 : Int32) => ∀ (u2_0 : Option Value) (u2_2 : Option Value), UP m_X7_isSeen 30 [u2_0, some (.int b2), u2_2] [] z1 (Qb (F_isSeen s))) (fun (_ : Nat) (a2 : Int32) => Fr W_isSeen z1 z1) (B_isSeen_6 z1) ((z1 123 37).toNatClampNeg) (fun i2 a2 x2 hi2 g2 e => g2) (fun i2 a2 hi2 g2 kk => ?_) ((z1 123 37).toNatClampNeg) (0) (1 : Int32) (by omega) (Fr.rf _ _) (fun z2 e2 g2 => ?_) (fun i2 a2 b2 e2 hi2 g2 f2 => ?_)
  · skip
    have hbi2 := cl_lt (z1 123 37)
    refine UP.stp 3 (i1 := 9) (L1 := [some (.ref 123), some (.int a2), some (.int (Int32.ofNat i2))]) (st1 := [.int (z1 123 37), .int (Int32.ofNat i2)]) (s1 := z1) rfl ?_
    refine UP.icF rfl (ge_F hi2) ?_
    refine UP.stp 1 (i1 := 11) (L1 := [some (.ref 123), some (.int a2), some (.int (Int32.ofNat i2))]) (st1 := [.int a2]) (s1 := z1) rfl ?_
    refine brk (K := (Kx (fun (i2 : Nat) (a2 : Int32) => UP m_X7_isSeen 6 [some (.ref 123), some (.int a2), some (.int (Int32.ofNat i2))] [] z1 (Qb (F_isSeen s))) (fun (i2 : Nat) (b2 : Int32) => ∀ (u2_0 : Option Value) (u2_2 : Option Value), UP m_X7_isSeen 30 [u2_0, some (.int b2), u2_2] [] z1 (Qb (F_isSeen s))) i2)) (m_cmp .eq a2 0) (.inr a2) (let v3 := bif m_cmp .ne (z1 140 ((z1 145 i2).toNatClampNeg)) (z1 146 i2) then (0 : Int32) else (1 : Int32); .inl v3) (by exact kk) (fun cc kk => ?_) (fun cc kk => ?_)
    · skip
      refine UP.ifT rfl cc ?_
      exact kk _ _
    · skip
      refine UP.ifF rfl cc ?_
      refine UP.stp 5 (i1 := 17) (L1 := [some (.ref 123), some (.int a2), some (.int (Int32.ofNat i2))]) (st1 := [.int (Int32.ofNat i2), .ref 145, .ref 140]) (s1 := z1) rfl ?_
      refine UP.ald (e := i2) rfl rfl (by omega) ?_
      show UP m_X7_isSeen 18 [some (.ref 123), some (.int a2), some (.int (Int32.ofNat i2))] [.int (z1 145 i2), .ref 140] z1 (Qb (F_isSeen s))
      refine UP.stp 4 (i1 := 22) (L1 := [some (.ref 123), some (.int a2), some (.int (Int32.ofNat i2))]) (st1 := [.int (Int32.ofNat i2), .ref 146, .int (z1 140 ((z1 145 i2).toNatClampNeg))]) (s1 := z1) rfl ?_
      refine UP.ald (e := i2) rfl rfl (by omega) ?_
      show UP m_X7_isSeen 23 [some (.ref 123), some (.int a2), some (.int (Int32.ofNat i2))] [.int (z1 146 i2), .int (z1 140 ((z1 145 i2).toNatClampNeg))] z1 (Qb (F_isSeen s))
      refine mrg (m_cmp .ne (z1 140 ((z1 145 i2).toNatClampNeg)) (z1 146 i2)) (0 : Int32) (1 : Int32) (fun v3 : Int32 => UP m_X7_isSeen 27 [some (.ref 123), some (.int a2), some (.int (Int32.ofNat i2))] [.int v3] z1 (Qb (F_isSeen s))) (fun cc kk => ?_) (fun cc kk => ?_) (fun v3 e3 => ?_)
      · skip
        refine UP.icT rfl cc ?_
        refine UP.stp 1 (i1 := 27) (L1 := [some (.ref 123), some (.int a2), some (.int (Int32.ofNat i2))]) (st1 := [.int 0]) (s1 := z1) rfl ?_
        exact kk
      · skip
        refine UP.icF rfl cc ?_
        refine UP.stp 2 (i1 := 27) (L1 := [some (.ref 123), some (.int a2), some (.int (Int32.ofNat i2))]) (st1 := [.int 1]) (s1 := z1) rfl ?_
        exact kk
      refine UP.stp 3 (i1 := 6) (L1 := [some (.ref 123), some (.int v3), some (.int ((Int32.ofNat i2) + 1))]) (st1 := []) (s1 := z1) rfl ?_
      subst e3
      rw [ofn_s]
      exact kk
  · skip
    refine UP.eqT ((z2, z1)) (by have q : (F_isSeen s) = Sum.elim (fun z2 : Int32 => (z2, z1)) (fun w2 : Nat × (Int32) => (w2.2, z1)) (itx (B_isSeen_6 z1) 0 ((z1 123 37).toNatClampNeg) (1 : Int32)) := (by subst e1; rfl); rw [q, e2]; rfl) ?_
    refine UP.stp 3 (i1 := 9) (L1 := [some (.ref 123), some (.int z2), some (.int (Int32.ofNat ((z1 123 37).toNatClampNeg)))]) (st1 := [.int (z1 123 37), .int (Int32.ofNat ((z1 123 37).toNatClampNeg))]) (s1 := z1) rfl ?_
    refine UP.icT rfl (ge_T _) ?_
    refine UP.stp 1 (i1 := 31) (L1 := [some (.ref 123), some (.int z2), some (.int (Int32.ofNat ((z1 123 37).toNatClampNeg)))]) (st1 := [.int z2]) (s1 := z1) rfl ?_
    exact UP.ret (r := some (.int z2)) rfl ⟨by subst e1; rfl, by subst e1; rfl⟩
  · skip
    intro u2_0 u2_2
    refine UP.eqT ((b2, z1)) (by have q : (F_isSeen s) = Sum.elim (fun z2 : Int32 => (z2, z1)) (fun w2 : Nat × (Int32) => (w2.2, z1)) (itx (B_isSeen_6 z1) 0 ((z1 123 37).toNatClampNeg) (1 : Int32)) := (by subst e1; rfl); rw [q, e2]; rfl) ?_
    refine UP.stp 1 (i1 := 31) (L1 := [u2_0, some (.int b2), u2_2]) (st1 := [.int b2]) (s1 := z1) rfl ?_
    exact UP.ret (r := some (.int b2)) rfl ⟨by subst e1; rfl, by subst e1; rfl⟩
def W_neverNow : List (Nat × Nat × Option Nat) := [(126, 129, none), (133, 144, none), (147, 147, none), (123, 123, some 2), (123, 123, some 5), (123, 123, some 7), (123, 123, some 17), (123, 123, some 19), (123, 123, some 20), (123, 123, some 21), (123, 123, some 22), (123, 123, some 23), (123, 123, some 24), (123, 123, some 25), (123, 123, some 26), (123, 123, some 27)]
def B_neverNow_6  (i2 : Nat) (a2 : SG × Int32) : SG × Int32 := let v3 := 1 <<< ((Int32.ofNat i2) &&& 31); let z4 := F_isSeen (uset a2.1 123 17 v3) ; let v5 := bif m_cmp .eq z4.1 0 then (0 : Int32) else 1 <<< ((Int32.ofNat i2) &&& 31); let v6 := a2.2 ||| v5; (z4.2, v6)
theorem fr_B_neverNow_6  (i2 : Nat) (a2 : SG × Int32)   : Fr W_neverNow a2.1 ((B_neverNow_6) i2 a2).1 := by dsimp only [B_neverNow_6]; exact (let v3 : Int32 := 1 <<< ((Int32.ofNat i2) &&& 31); (Fr.tr (s1 := (uset a2.1 123 17 v3)) (Fr.uset (s1 := a2.1) (a := 123) (j := 17) (x := v3) (by rfl) (Fr.rf _ _)) (Fr.wk (W2 := W_neverNow) (fr_isSeen (uset a2.1 123 17 v3) ) (by rfl))))
def F_neverNow (s : SG)  : Int32 × SG := let z1 := F_asTold s ; let z2 := itr (B_neverNow_6) 0 ((z1 123 11).toNatClampNeg) (z1, 0); (z2.2, z2.1)
theorem fr_neverNow (s : SG)   : Fr W_neverNow s (F_neverNow s).2 := by dsimp only [F_neverNow]; exact (Fr.itr (W := W_neverNow) (m := (fun x : SG × Int32 => x.1)) (fun i a => Fr.wk (W2 := W_neverNow) (fr_B_neverNow_6  i a ) (by rfl)) _ _ _ (Fr.tr (s1 := s) (Fr.rf _ _) (Fr.wk (W2 := W_neverNow) (fr_asTold s ) (by rfl))))
theorem ux_neverNow (s : SG)   : UP m_X7_neverNow 0 (m_ent 3 [.ref 123]) [] s (Qb (F_neverNow s)) := by
  refine UP.stp 1 (i1 := 1) (L1 := [some (.ref 123), none, none]) (st1 := [.ref 123]) (s1 := s) rfl ?_
  refine UP.cV (M1 := m_X7_asTold) (as := [.ref 123]) (rest := []) (T := F_asTold s ) rfl rfl (ux_asTold s ) (fun z1 e1 => ?_)
  refine UP.stp 4 (i1 := 6) (L1 := [some (.ref 123), some (.int 0), some (.int 0)]) (st1 := []) (s1 := z1) rfl ?_
  refine lp (fun (i2 : Nat) (a2 : SG × Int32) => UP m_X7_neverNow 6 [some (.ref 123), some (.int a2.2), some (.int (Int32.ofNat i2))] [] a2.1 (Qb (F_neverNow s))) (fun (_ : Nat) (a2 : SG × Int32) => Fr W_neverNow z1 a2.1) (B_neverNow_6) ((z1 123 11).toNatClampNeg) (fun i2 a2 hi2 g2 => g2.tr (fr_B_neverNow_6  i2 a2 )) (fun i2 a2 hi2 g2 kk => ?_) ((z1 123 11).toNatClampNeg) (0) (z1, 0) (by omega) (Fr.rf _ _) (fun z2 e2 g2 => ?_)
  · skip
    have hbi2 := cl_lt (z1 123 11)
    refine UP.stp 3 (i1 := 9) (L1 := [some (.ref 123), some (.int a2.2), some (.int (Int32.ofNat i2))]) (st1 := [.int (a2.1 123 11), .int (Int32.ofNat i2)]) (s1 := a2.1) rfl ?_
    refine UP.icF rfl (by rw [(g2 123 11 rfl)]; exact ge_F hi2) ?_
    refine UP.stp 4 (i1 := 14) (L1 := [some (.ref 123), some (.int a2.2), some (.int (Int32.ofNat i2))]) (st1 := [.int (1 <<< ((Int32.ofNat i2) &&& 31)), .ref 123]) (s1 := a2.1) rfl ?_
    refine nm (G := fun v3 => UP m_X7_neverNow 14 [some (.ref 123), some (.int a2.2), some (.int (Int32.ofNat i2))] [.int v3, .ref 123] a2.1 (Qb (F_neverNow s))) (1 <<< ((Int32.ofNat i2) &&& 31)) (fun v3 e3 => ?_)
    refine UP.stp 3 (i1 := 17) (L1 := [some (.ref 123), some (.int a2.2), some (.int (Int32.ofNat i2))]) (st1 := [.ref 123, .int a2.2]) (s1 := (uset a2.1 123 17 v3)) rfl ?_
    refine UP.cB (M1 := m_X7_isSeen) (as := [.ref 123]) (rest := [.int a2.2]) (T := F_isSeen (uset a2.1 123 17 v3) ) rfl rfl (ux_isSeen (uset a2.1 123 17 v3) ) (fun z4 e4 => ?_)
    refine mrg (m_cmp .eq z4.1 0) (0 : Int32) (1 <<< ((Int32.ofNat i2) &&& 31)) (fun v5 : Int32 => UP m_X7_neverNow 24 [some (.ref 123), some (.int a2.2), some (.int (Int32.ofNat i2))] [.int v5, .int a2.2] z4.2 (Qb (F_neverNow s))) (fun cc kk => ?_) (fun cc kk => ?_) (fun v5 e5 => ?_)
    · skip
      refine UP.ifT rfl cc ?_
      refine UP.stp 1 (i1 := 24) (L1 := [some (.ref 123), some (.int a2.2), some (.int (Int32.ofNat i2))]) (st1 := [.int 0, .int a2.2]) (s1 := z4.2) rfl ?_
      exact kk
    · skip
      refine UP.ifF rfl cc ?_
      refine UP.stp 4 (i1 := 24) (L1 := [some (.ref 123), some (.int a2.2), some (.int (Int32.ofNat i2))]) (st1 := [.int (1 <<< ((Int32.ofNat i2) &&& 31)), .int a2.2]) (s1 := z4.2) rfl ?_
      exact kk
    refine UP.stp 1 (i1 := 25) (L1 := [some (.ref 123), some (.int a2.2), some (.int (Int32.ofNat i2))]) (st1 := [.int (a2.2 ||| v5)]) (s1 := z4.2) rfl ?_
    refine nm (G := fun v6 => UP m_X7_neverNow 25 [some (.ref 123), some (.int a2.2), some (.int (Int32.ofNat i2))] [.int v6] z4.2 (Qb (F_neverNow s))) (a2.2 ||| v5) (fun v6 e6 => ?_)
    refine UP.stp 3 (i1 := 6) (L1 := [some (.ref 123), some (.int v6), some (.int ((Int32.ofNat i2) + 1))]) (st1 := []) (s1 := z4.2) rfl ?_
    subst e6 e5 e4 e3
    rw [ofn_s]
    exact kk
  refine UP.stp 3 (i1 := 9) (L1 := [some (.ref 123), some (.int z2.2), some (.int (Int32.ofNat ((z1 123 11).toNatClampNeg)))]) (st1 := [.int (z2.1 123 11), .int (Int32.ofNat ((z1 123 11).toNatClampNeg))]) (s1 := z2.1) rfl ?_
  refine UP.icT rfl (by rw [(g2 123 11 rfl)]; exact ge_T _) ?_
  refine UP.stp 1 (i1 := 29) (L1 := [some (.ref 123), some (.int z2.2), some (.int (Int32.ofNat ((z1 123 11).toNatClampNeg)))]) (st1 := [.int z2.2]) (s1 := z2.1) rfl ?_
  exact UP.ret (r := some (.int z2.2)) rfl ⟨by subst e2 e1; rfl, by subst e2 e1; rfl⟩
def W_never : List (Nat × Nat × Option Nat) := [(126, 129, none), (133, 144, none), (147, 147, none), (123, 123, some 2), (123, 123, some 5), (123, 123, some 7), (123, 123, some 17), (123, 123, some 19), (123, 123, some 20), (123, 123, some 21), (123, 123, some 22), (123, 123, some 23), (123, 123, some 24), (123, 123, some 25), (123, 123, some 26), (123, 123, some 27)]
def F_never (s : SG)  : Int32 × SG := let z1 := F_neverNow s ; z1
theorem fr_never (s : SG)   : Fr W_never s (F_never s).2 := by dsimp only [F_never]; exact (Fr.tr (s1 := s) (Fr.rf _ _) (Fr.wk (W2 := W_never) (fr_neverNow s ) (by rfl)))
theorem ux_never (s : SG)   : UP m_X7_never 0 (m_ent 1 [.ref 123]) [] s (Qb (F_never s)) := by
  refine UP.stp 1 (i1 := 1) (L1 := [some (.ref 123)]) (st1 := [.ref 123]) (s1 := s) rfl ?_
  refine UP.cB (M1 := m_X7_neverNow) (as := [.ref 123]) (rest := []) (T := F_neverNow s ) rfl rfl (ux_neverNow s ) (fun z1 e1 => ?_)
  exact UP.ret (r := some (.int z1.1)) rfl ⟨by subst e1; rfl, by subst e1; rfl⟩
def W_powersBy : List (Nat × Nat × Option Nat) := [(126, 129, none), (133, 144, none), (147, 147, none), (123, 123, some 2), (123, 123, some 5), (123, 123, some 7), (123, 123, some 17), (123, 123, some 19), (123, 123, some 20), (123, 123, some 21), (123, 123, some 22), (123, 123, some 23), (123, 123, some 24), (123, 123, some 25), (123, 123, some 26), (123, 123, some 27)]
def B_powersBy_32  (i7 : Nat) (a7 : SG) : SG := let v8 := a7 140 i7; (uset a7 147 (24 * i3 + i7) v8)
theorem fr_B_powersBy_32  (i7 : Nat) (a7 : SG)  (hi7 : i7 < 24) : Fr W_powersBy a7 ((B_powersBy_32) i7 a7) := by dsimp only [B_powersBy_32]; exact (let v8 : Int32 := a7 140 i7; (Fr.uset (s1 := a7) (a := 147) (j := 24 * i3 + i7) (x := v8) (by rfl) (Fr.rf _ _)))
def B_powersBy_11 (k : Int32) (i3 : Nat) (a3 : SG × Int32) : SG × Int32 := let z4 := F_isSeen (uset a3.1 127 k.toNatClampNeg (Int32.ofNat i3)) ; let v5 := bif m_cmp .eq z4.1 0 then (0 : Int32) else 1 <<< ((Int32.ofNat i3) &&& 31); let v6 := a3.2 ||| v5; let z7 := itr (B_powersBy_32) 0 24 z4.2; (z7, v6)
theorem fr_B_powersBy_11 (k : Int32) (i3 : Nat) (a3 : SG × Int32)  (hi3 : i3 < 10) : Fr W_powersBy a3.1 ((B_powersBy_11 k) i3 a3).1 := by dsimp only [B_powersBy_11]; exact (frItrB (W := W_powersBy) (m := (fun x : SG => x)) 24 (fun i a h => Fr.wk (W2 := W_powersBy) (fr_B_powersBy_32  i a  h) (by rfl)) _ _ _ (by omega) (Fr.tr (s1 := (uset a3.1 127 k.toNatClampNeg (Int32.ofNat i3))) (Fr.uset (s1 := a3.1) (a := 127) (j := k.toNatClampNeg) (x := Int32.ofNat i3) (by rfl) (Fr.rf _ _)) (Fr.wk (W2 := W_powersBy) (fr_isSeen (uset a3.1 127 k.toNatClampNeg (Int32.ofNat i3)) ) (by rfl))))
def F_powersBy (s : SG) (k : Int32) : Int32 × SG := let z1 := F_asTold s ; let v2 := z1 127 k.toNatClampNeg; let z3 := itr (B_powersBy_11 k) 1 (10 - 1) (z1, 0); (z3.2, (uset z3.1 127 k.toNatClampNeg v2))
theorem fr_powersBy (s : SG) (k : Int32)  : Fr W_powersBy s (F_powersBy s k).2 := by dsimp only [F_powersBy]; exact (let z1 : SG := F_asTold s ; (let v2 : Int32 := z1 127 k.toNatClampNeg; (let z3 : SG × Int32 := itr (B_powersBy_11 k) 1 (10 - 1) (z1, 0); (Fr.uset (s1 := z3.1) (a := 127) (j := k.toNatClampNeg) (x := v2) (by rfl) (frItrB (W := W_powersBy) (m := (fun x : SG × Int32 => x.1)) 10 (fun i a h => Fr.wk (W2 := W_powersBy) (fr_B_powersBy_11 k i a  h) (by rfl)) _ _ _ (by omega) (Fr.tr (s1 := s) (Fr.rf _ _) (Fr.wk (W2 := W_powersBy) (fr_asTold s ) (by rfl))))))))
theorem ux_powersBy (s : SG) (k : Int32)  : UP m_X7_powersBy 0 (m_ent 6 [.ref 123, .int k]) [] s (Qb (F_powersBy s k)) := by
  refine UP.stp 1 (i1 := 1) (L1 := [some (.ref 123), some (.int k), none, none, none, none]) (st1 := [.ref 123]) (s1 := s) rfl ?_
  refine UP.cV (M1 := m_X7_asTold) (as := [.ref 123]) (rest := []) (T := F_asTold s ) rfl rfl (ux_asTold s ) (fun z1 e1 => ?_)
  refine UP.stp 4 (i1 := 6) (L1 := [some (.ref 123), some (.int k), none, none, none, none]) (st1 := [.int (z1 127 k.toNatClampNeg)]) (s1 := z1) rfl ?_
  refine nm (G := fun v2 => UP m_X7_powersBy 6 [some (.ref 123), some (.int k), none, none, none, none] [.int v2] z1 (Qb (F_powersBy s k))) (z1 127 k.toNatClampNeg) (fun v2 e2 => ?_)
  refine UP.stp 5 (i1 := 11) (L1 := [some (.ref 123), some (.int k), some (.int v2), some (.int 0), some (.int 1), none]) (st1 := []) (s1 := z1) rfl ?_
  refine lp (fun (i3 : Nat) (a3 : SG × Int32) => ∀ (u3_5 : Option Value), UP m_X7_powersBy 11 [some (.ref 123), some (.int k), some (.int v2), some (.int a3.2), some (.int (Int32.ofNat i3)), u3_5] [] a3.1 (Qb (F_powersBy s k))) (fun (_ : Nat) (a3 : SG × Int32) => Fr W_powersBy z1 a3.1) (B_powersBy_11 k) (10) (fun i3 a3 hi3 g3 => g3.tr (fr_B_powersBy_11 k i3 a3 hi3)) (fun i3 a3 hi3 g3 kk => ?_) (10 - 1) (1) (z1, 0) (by omega) (Fr.rf _ _) (fun z3 e3 g3 => ?_) none
  · skip
    intro u3_5
    refine UP.stp 2 (i1 := 13) (L1 := [some (.ref 123), some (.int k), some (.int v2), some (.int a3.2), some (.int (Int32.ofNat i3)), u3_5]) (st1 := [.int 10, .int (Int32.ofNat i3)]) (s1 := a3.1) rfl ?_
    refine UP.icF rfl (ge_F (show i3 < (10 : Int32).toNatClampNeg from hi3)) ?_
    refine UP.stp 7 (i1 := 21) (L1 := [some (.ref 123), some (.int k), some (.int v2), some (.int a3.2), some (.int (Int32.ofNat i3)), u3_5]) (st1 := [.ref 123, .int a3.2]) (s1 := (uset a3.1 127 k.toNatClampNeg (Int32.ofNat i3))) rfl ?_
    refine UP.cB (M1 := m_X7_isSeen) (as := [.ref 123]) (rest := [.int a3.2]) (T := F_isSeen (uset a3.1 127 k.toNatClampNeg (Int32.ofNat i3)) ) rfl rfl (ux_isSeen (uset a3.1 127 k.toNatClampNeg (Int32.ofNat i3)) ) (fun z4 e4 => ?_)
    refine mrg (m_cmp .eq z4.1 0) (0 : Int32) (1 <<< ((Int32.ofNat i3) &&& 31)) (fun v5 : Int32 => UP m_X7_powersBy 28 [some (.ref 123), some (.int k), some (.int v2), some (.int a3.2), some (.int (Int32.ofNat i3)), u3_5] [.int v5, .int a3.2] z4.2 (Qb (F_powersBy s k))) (fun cc kk => ?_) (fun cc kk => ?_) (fun v5 e5 => ?_)
    · skip
      refine UP.ifT rfl cc ?_
      refine UP.stp 1 (i1 := 28) (L1 := [some (.ref 123), some (.int k), some (.int v2), some (.int a3.2), some (.int (Int32.ofNat i3)), u3_5]) (st1 := [.int 0, .int a3.2]) (s1 := z4.2) rfl ?_
      exact kk
    · skip
      refine UP.ifF rfl cc ?_
      refine UP.stp 4 (i1 := 28) (L1 := [some (.ref 123), some (.int k), some (.int v2), some (.int a3.2), some (.int (Int32.ofNat i3)), u3_5]) (st1 := [.int (1 <<< ((Int32.ofNat i3) &&& 31)), .int a3.2]) (s1 := z4.2) rfl ?_
      exact kk
    refine UP.stp 1 (i1 := 29) (L1 := [some (.ref 123), some (.int k), some (.int v2), some (.int a3.2), some (.int (Int32.ofNat i3)), u3_5]) (st1 := [.int (a3.2 ||| v5)]) (s1 := z4.2) rfl ?_
    refine nm (G := fun v6 => UP m_X7_powersBy 29 [some (.ref 123), some (.int k), some (.int v2), some (.int a3.2), some (.int (Int32.ofNat i3)), u3_5] [.int v6] z4.2 (Qb (F_powersBy s k))) (a3.2 ||| v5) (fun v6 e6 => ?_)
    refine UP.stp 3 (i1 := 32) (L1 := [some (.ref 123), some (.int k), some (.int v2), some (.int v6), some (.int (Int32.ofNat i3)), some (.int 0)]) (st1 := []) (s1 := z4.2) rfl ?_
    refine lp (fun (i7 : Nat) (a7 : SG) => UP m_X7_powersBy 32 [some (.ref 123), some (.int k), some (.int v2), some (.int v6), some (.int (Int32.ofNat i3)), some (.int (Int32.ofNat i7))] [] a7 (Qb (F_powersBy s k))) (fun (_ : Nat) (a7 : SG) => Fr W_powersBy z4.2 a7) (B_powersBy_32) (24) (fun i7 a7 hi7 g7 => g7.tr (fr_B_powersBy_32  i7 a7 hi7)) (fun i7 a7 hi7 g7 kk => ?_) 24 (0) z4.2 (by omega) (Fr.rf _ _) (fun z7 e7 g7 => ?_)
    · skip
      refine UP.stp 2 (i1 := 34) (L1 := [some (.ref 123), some (.int k), some (.int v2), some (.int v6), some (.int (Int32.ofNat i3)), some (.int (Int32.ofNat i7))]) (st1 := [.int 24, .int (Int32.ofNat i7)]) (s1 := a7) rfl ?_
      refine UP.icF rfl (ge_F (show i7 < (24 : Int32).toNatClampNeg from hi7)) ?_
      refine UP.stp 10 (i1 := 45) (L1 := [some (.ref 123), some (.int k), some (.int v2), some (.int v6), some (.int (Int32.ofNat i3)), some (.int (Int32.ofNat i7))]) (st1 := [.int (Int32.ofNat i7), .ref 140, .int ((24 * (Int32.ofNat i3)) + (Int32.ofNat i7)), .ref 147]) (s1 := a7) rfl ?_
      refine UP.ald (e := i7) rfl rfl (by omega) ?_
      show UP m_X7_powersBy 46 [some (.ref 123), some (.int k), some (.int v2), some (.int v6), some (.int (Int32.ofNat i3)), some (.int (Int32.ofNat i7))] [.int (a7 140 i7), .int ((24 * (Int32.ofNat i3)) + (Int32.ofNat i7)), .ref 147] a7 (Qb (F_powersBy s k))
      refine nm (G := fun v8 => UP m_X7_powersBy 46 [some (.ref 123), some (.int k), some (.int v2), some (.int v6), some (.int (Int32.ofNat i3)), some (.int (Int32.ofNat i7))] [.int v8, .int ((24 * (Int32.ofNat i3)) + (Int32.ofNat i7)), .ref 147] a7 (Qb (F_powersBy s k))) (a7 140 i7) (fun v8 e8 => ?_)
      refine UP.ast (e := 24 * i3 + i7) rfl (ofn_add (ofn_mul rfl rfl) rfl) (by omega) ?_
      show UP m_X7_powersBy 47 [some (.ref 123), some (.int k), some (.int v2), some (.int v6), some (.int (Int32.ofNat i3)), some (.int (Int32.ofNat i7))] [] (uset a7 147 (24 * i3 + i7) v8) (Qb (F_powersBy s k))
      refine UP.stp 2 (i1 := 32) (L1 := [some (.ref 123), some (.int k), some (.int v2), some (.int v6), some (.int (Int32.ofNat i3)), some (.int ((Int32.ofNat i7) + 1))]) (st1 := []) (s1 := (uset a7 147 (24 * i3 + i7) v8)) rfl ?_
      subst e8
      rw [ofn_s]
      exact kk
    refine UP.stp 2 (i1 := 34) (L1 := [some (.ref 123), some (.int k), some (.int v2), some (.int v6), some (.int (Int32.ofNat i3)), some (.int (Int32.ofNat 24))]) (st1 := [.int 24, .int (Int32.ofNat 24)]) (s1 := z7) rfl ?_
    refine UP.icT rfl (ge_T (24 : Int32)) ?_
    refine UP.stp 2 (i1 := 11) (L1 := [some (.ref 123), some (.int k), some (.int v2), some (.int v6), some (.int ((Int32.ofNat i3) + 1)), some (.int (Int32.ofNat 24))]) (st1 := []) (s1 := z7) rfl ?_
    subst e7 e6 e5 e4
    rw [ofn_s]
    exact kk _
  intro u3_5
  refine UP.stp 2 (i1 := 13) (L1 := [some (.ref 123), some (.int k), some (.int v2), some (.int z3.2), some (.int (Int32.ofNat 10)), u3_5]) (st1 := [.int 10, .int (Int32.ofNat 10)]) (s1 := z3.1) rfl ?_
  refine UP.icT rfl (ge_T (10 : Int32)) ?_
  refine UP.stp 6 (i1 := 57) (L1 := [some (.ref 123), some (.int k), some (.int v2), some (.int z3.2), some (.int (Int32.ofNat 10)), u3_5]) (st1 := [.int z3.2]) (s1 := (uset z3.1 127 k.toNatClampNeg v2)) rfl ?_
  exact UP.ret (r := some (.int z3.2)) rfl ⟨by subst e3 e2 e1; rfl, by subst e3 e2 e1; rfl⟩
def W_sortsBy : List (Nat × Nat × Option Nat) := [(126, 129, none), (133, 144, none), (147, 147, none), (123, 123, some 2), (123, 123, some 5), (123, 123, some 7), (123, 123, some 17), (123, 123, some 19), (123, 123, some 20), (123, 123, some 21), (123, 123, some 22), (123, 123, some 23), (123, 123, some 24), (123, 123, some 25), (123, 123, some 26), (123, 123, some 27)]
def B_sortsBy_11 (k : Int32) (i3 : Nat) (a3 : SG × Int32) : SG × Int32 := let z4 := F_isSeen (uset a3.1 126 k.toNatClampNeg (Int32.ofNat i3)) ; let v5 := bif m_cmp .eq z4.1 0 then (0 : Int32) else 1 <<< ((Int32.ofNat i3) &&& 31); let v6 := a3.2 ||| v5; (z4.2, v6)
theorem fr_B_sortsBy_11 (k : Int32) (i3 : Nat) (a3 : SG × Int32)  (hi3 : i3 < 3) : Fr W_sortsBy a3.1 ((B_sortsBy_11 k) i3 a3).1 := by dsimp only [B_sortsBy_11]; exact (Fr.tr (s1 := (uset a3.1 126 k.toNatClampNeg (Int32.ofNat i3))) (Fr.uset (s1 := a3.1) (a := 126) (j := k.toNatClampNeg) (x := Int32.ofNat i3) (by rfl) (Fr.rf _ _)) (Fr.wk (W2 := W_sortsBy) (fr_isSeen (uset a3.1 126 k.toNatClampNeg (Int32.ofNat i3)) ) (by rfl)))
def F_sortsBy (s : SG) (k : Int32) : Int32 × SG := let z1 := F_asTold s ; let v2 := z1 126 k.toNatClampNeg; let z3 := itr (B_sortsBy_11 k) 0 3 (z1, 0); (z3.2, (uset z3.1 126 k.toNatClampNeg v2))
theorem fr_sortsBy (s : SG) (k : Int32)  : Fr W_sortsBy s (F_sortsBy s k).2 := by dsimp only [F_sortsBy]; exact (let z1 : SG := F_asTold s ; (let v2 : Int32 := z1 126 k.toNatClampNeg; (let z3 : SG × Int32 := itr (B_sortsBy_11 k) 0 3 (z1, 0); (Fr.uset (s1 := z3.1) (a := 126) (j := k.toNatClampNeg) (x := v2) (by rfl) (frItrB (W := W_sortsBy) (m := (fun x : SG × Int32 => x.1)) 3 (fun i a h => Fr.wk (W2 := W_sortsBy) (fr_B_sortsBy_11 k i a  h) (by rfl)) _ _ _ (by omega) (Fr.tr (s1 := s) (Fr.rf _ _) (Fr.wk (W2 := W_sortsBy) (fr_asTold s ) (by rfl))))))))
theorem ux_sortsBy (s : SG) (k : Int32)  : UP m_X7_sortsBy 0 (m_ent 5 [.ref 123, .int k]) [] s (Qb (F_sortsBy s k)) := by
  refine UP.stp 1 (i1 := 1) (L1 := [some (.ref 123), some (.int k), none, none, none]) (st1 := [.ref 123]) (s1 := s) rfl ?_
  refine UP.cV (M1 := m_X7_asTold) (as := [.ref 123]) (rest := []) (T := F_asTold s ) rfl rfl (ux_asTold s ) (fun z1 e1 => ?_)
  refine UP.stp 4 (i1 := 6) (L1 := [some (.ref 123), some (.int k), none, none, none]) (st1 := [.int (z1 126 k.toNatClampNeg)]) (s1 := z1) rfl ?_
  refine nm (G := fun v2 => UP m_X7_sortsBy 6 [some (.ref 123), some (.int k), none, none, none] [.int v2] z1 (Qb (F_sortsBy s k))) (z1 126 k.toNatClampNeg) (fun v2 e2 => ?_)
  refine UP.stp 5 (i1 := 11) (L1 := [some (.ref 123), some (.int k), some (.int v2), some (.int 0), some (.int 0)]) (st1 := []) (s1 := z1) rfl ?_
  refine lp (fun (i3 : Nat) (a3 : SG × Int32) => UP m_X7_sortsBy 11 [some (.ref 123), some (.int k), some (.int v2), some (.int a3.2), some (.int (Int32.ofNat i3))] [] a3.1 (Qb (F_sortsBy s k))) (fun (_ : Nat) (a3 : SG × Int32) => Fr W_sortsBy z1 a3.1) (B_sortsBy_11 k) (3) (fun i3 a3 hi3 g3 => g3.tr (fr_B_sortsBy_11 k i3 a3 hi3)) (fun i3 a3 hi3 g3 kk => ?_) 3 (0) (z1, 0) (by omega) (Fr.rf _ _) (fun z3 e3 g3 => ?_)
  · skip
    refine UP.stp 2 (i1 := 13) (L1 := [some (.ref 123), some (.int k), some (.int v2), some (.int a3.2), some (.int (Int32.ofNat i3))]) (st1 := [.int 3, .int (Int32.ofNat i3)]) (s1 := a3.1) rfl ?_
    refine UP.icF rfl (ge_F (show i3 < (3 : Int32).toNatClampNeg from hi3)) ?_
    refine UP.stp 7 (i1 := 21) (L1 := [some (.ref 123), some (.int k), some (.int v2), some (.int a3.2), some (.int (Int32.ofNat i3))]) (st1 := [.ref 123, .int a3.2]) (s1 := (uset a3.1 126 k.toNatClampNeg (Int32.ofNat i3))) rfl ?_
    refine UP.cB (M1 := m_X7_isSeen) (as := [.ref 123]) (rest := [.int a3.2]) (T := F_isSeen (uset a3.1 126 k.toNatClampNeg (Int32.ofNat i3)) ) rfl rfl (ux_isSeen (uset a3.1 126 k.toNatClampNeg (Int32.ofNat i3)) ) (fun z4 e4 => ?_)
    refine mrg (m_cmp .eq z4.1 0) (0 : Int32) (1 <<< ((Int32.ofNat i3) &&& 31)) (fun v5 : Int32 => UP m_X7_sortsBy 28 [some (.ref 123), some (.int k), some (.int v2), some (.int a3.2), some (.int (Int32.ofNat i3))] [.int v5, .int a3.2] z4.2 (Qb (F_sortsBy s k))) (fun cc kk => ?_) (fun cc kk => ?_) (fun v5 e5 => ?_)
    · skip
      refine UP.ifT rfl cc ?_
      refine UP.stp 1 (i1 := 28) (L1 := [some (.ref 123), some (.int k), some (.int v2), some (.int a3.2), some (.int (Int32.ofNat i3))]) (st1 := [.int 0, .int a3.2]) (s1 := z4.2) rfl ?_
      exact kk
    · skip
      refine UP.ifF rfl cc ?_
      refine UP.stp 4 (i1 := 28) (L1 := [some (.ref 123), some (.int k), some (.int v2), some (.int a3.2), some (.int (Int32.ofNat i3))]) (st1 := [.int (1 <<< ((Int32.ofNat i3) &&& 31)), .int a3.2]) (s1 := z4.2) rfl ?_
      exact kk
    refine UP.stp 1 (i1 := 29) (L1 := [some (.ref 123), some (.int k), some (.int v2), some (.int a3.2), some (.int (Int32.ofNat i3))]) (st1 := [.int (a3.2 ||| v5)]) (s1 := z4.2) rfl ?_
    refine nm (G := fun v6 => UP m_X7_sortsBy 29 [some (.ref 123), some (.int k), some (.int v2), some (.int a3.2), some (.int (Int32.ofNat i3))] [.int v6] z4.2 (Qb (F_sortsBy s k))) (a3.2 ||| v5) (fun v6 e6 => ?_)
    refine UP.stp 3 (i1 := 11) (L1 := [some (.ref 123), some (.int k), some (.int v2), some (.int v6), some (.int ((Int32.ofNat i3) + 1))]) (st1 := []) (s1 := z4.2) rfl ?_
    subst e6 e5 e4
    rw [ofn_s]
    exact kk
  refine UP.stp 2 (i1 := 13) (L1 := [some (.ref 123), some (.int k), some (.int v2), some (.int z3.2), some (.int (Int32.ofNat 3))]) (st1 := [.int 3, .int (Int32.ofNat 3)]) (s1 := z3.1) rfl ?_
  refine UP.icT rfl (ge_T (3 : Int32)) ?_
  refine UP.stp 6 (i1 := 38) (L1 := [some (.ref 123), some (.int k), some (.int v2), some (.int z3.2), some (.int (Int32.ofNat 3))]) (st1 := [.int z3.2]) (s1 := (uset z3.1 126 k.toNatClampNeg v2)) rfl ?_
  exact UP.ret (r := some (.int z3.2)) rfl ⟨by subst e3 e2 e1; rfl, by subst e3 e2 e1; rfl⟩
