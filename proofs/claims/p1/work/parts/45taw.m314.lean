def W_powersBy : List (Nat × Nat × Option Nat) := [(126, 129, none), (133, 144, none), (147, 147, none), (123, 123, some 2), (123, 123, some 5), (123, 123, some 7), (123, 123, some 17), (123, 123, some 19), (123, 123, some 20), (123, 123, some 21), (123, 123, some 22), (123, 123, some 23), (123, 123, some 24), (123, 123, some 25), (123, 123, some 26), (123, 123, some 27)]
def B_powersBy_32 (i3 : Nat) (i7 : Nat) (a7 : SG) : SG := let v8 := a7 140 i7; (uset a7 147 (24 * i3 + i7) v8)
set_option maxRecDepth 20000 in
set_option maxHeartbeats 200000 in
theorem fr_B_powersBy_32 (i3 : Nat) (i7 : Nat) (a7 : SG)  (hi7 : i7 < 24) : Fr W_powersBy a7 ((B_powersBy_32 i3) i7 a7) := by dsimp only [B_powersBy_32]; exact (let v8 : Int32 := a7 140 i7; (Fr.uset (s1 := a7) (a := 147) (j := 24 * i3 + i7) (x := v8) (by rfl) (Fr.rf _ _)))
def B_powersBy_11 (k : Int32) (i3 : Nat) (a3 : SG × Int32) : SG × Int32 := let z4 := F_isSeen (uset a3.1 127 k.toNatClampNeg (Int32.ofNat i3)) ; let v5 := bif m_cmp .eq z4.1 0 then (0 : Int32) else 1 <<< ((Int32.ofNat i3) &&& 31); let v6 := a3.2 ||| v5; let z7 := itr (B_powersBy_32 i3) 0 24 z4.2; (z7, v6)
set_option maxRecDepth 20000 in
set_option maxHeartbeats 200000 in
theorem fr_B_powersBy_11 (k : Int32) (i3 : Nat) (a3 : SG × Int32)  (hi3 : i3 < 10) : Fr W_powersBy a3.1 ((B_powersBy_11 k) i3 a3).1 := by dsimp only [B_powersBy_11]; exact (let z4 : Int32 × SG := F_isSeen (uset a3.1 127 k.toNatClampNeg (Int32.ofNat i3)) ; (frItrB (W := W_powersBy) (m := (fun x : SG => x)) (f := (B_powersBy_32 i3)) 24 (fun ii aa hh => Fr.wk (W2 := W_powersBy) (fr_B_powersBy_32 i3 ii aa  hh) (by rfl)) 24 0 z4.2 (by omega) (Fr.tr (s1 := (uset a3.1 127 k.toNatClampNeg (Int32.ofNat i3))) (Fr.uset (s1 := a3.1) (a := 127) (j := k.toNatClampNeg) (x := Int32.ofNat i3) (by rfl) (Fr.rf _ _)) (Fr.wk (W2 := W_powersBy) (fr_isSeen (uset a3.1 127 k.toNatClampNeg (Int32.ofNat i3)) ) (by rfl)))))
def F_powersBy (s : SG) (k : Int32) : Int32 × SG := let z1 := F_asTold s ; let v2 := z1 127 k.toNatClampNeg; let z3 := itr (B_powersBy_11 k) 1 (10 - 1) (z1, 0); (z3.2, (uset z3.1 127 k.toNatClampNeg v2))
set_option maxRecDepth 20000 in
set_option maxHeartbeats 200000 in
theorem fr_powersBy (s : SG) (k : Int32)  : Fr W_powersBy s (F_powersBy s k).2 := by dsimp only [F_powersBy]; exact (let z1 : SG := F_asTold s ; (let v2 : Int32 := z1 127 k.toNatClampNeg; (let z3 : SG × Int32 := itr (B_powersBy_11 k) 1 (10 - 1) (z1, 0); (Fr.uset (s1 := z3.1) (a := 127) (j := k.toNatClampNeg) (x := v2) (by rfl) (frItrB (W := W_powersBy) (m := (fun x : SG × Int32 => x.1)) (f := (B_powersBy_11 k)) 10 (fun ii aa hh => Fr.wk (W2 := W_powersBy) (fr_B_powersBy_11 k ii aa  hh) (by rfl)) (10 - 1) 1 (z1, 0) (by omega) (Fr.tr (s1 := s) (Fr.rf _ _) (Fr.wk (W2 := W_powersBy) (fr_asTold s ) (by rfl))))))))
set_option maxRecDepth 20000 in
set_option maxHeartbeats 200000 in
theorem ux_powersBy (s : SG) (k : Int32)  : UP m_X7_powersBy 0 (m_ent 6 [.ref 123, .int k]) [] s (Qb (F_powersBy s k)) := by
  refine UP.stp 1 (i1 := 1) (L1 := [some (.ref 123), some (.int k), none, none, none, none]) (st1 := [.ref 123]) (s1 := s) rfl ?_
  refine UP.cV (M1 := m_X7_asTold) (as := [.ref 123]) (rest := []) (T := F_asTold s ) rfl rfl (ux_asTold s ) (fun z1 e1 => ?_)
  refine UP.stp 4 (i1 := 6) (L1 := [some (.ref 123), some (.int k), none, none, none, none]) (st1 := [.int (z1 127 k.toNatClampNeg)]) (s1 := z1) rfl ?_
  refine nm (G := fun v2 => UP m_X7_powersBy 6 [some (.ref 123), some (.int k), none, none, none, none] [.int v2] z1 (Qb (F_powersBy s k))) (z1 127 k.toNatClampNeg) (fun v2 e2 => ?_)
  refine UP.stp 5 (i1 := 11) (L1 := [some (.ref 123), some (.int k), some (.int v2), some (.int 0), some (.int 1), none]) (st1 := []) (s1 := z1) rfl ?_
  refine lp (fun (i3 : Nat) (a3 : SG × Int32) => ∀ (u3_5 : Option Value), UP m_X7_powersBy 11 [some (.ref 123), some (.int k), some (.int v2), some (.int a3.2), some (.int (Int32.ofNat i3)), u3_5] [] a3.1 (Qb (F_powersBy s k))) (fun (_ : Nat) (a3 : SG × Int32) => Fr W_powersBy z1 a3.1) (B_powersBy_11 k) (10) (fun i3 a3 hi3 g3 => g3.tr (fr_B_powersBy_11 k i3 a3 hi3)) (fun i3 a3 hi3 g3 kk => ?_) (10 - 1) (1) (z1, 0) (by  omega) (Fr.rf _ _) (fun z3 e3 g3 => ?_) none
  · skip
    intro u3_5
    refine UP.stp 2 (i1 := 13) (L1 := [some (.ref 123), some (.int k), some (.int v2), some (.int a3.2), some (.int (Int32.ofNat i3)), u3_5]) (st1 := [.int 10, .int (Int32.ofNat i3)]) (s1 := a3.1) rfl ?_
    refine UP.icF rfl (ge_F (show i3 < (10 : Int32).toNatClampNeg from hi3)) ?_
    refine UP.stp 7 (i1 := 21) (L1 := [some (.ref 123), some (.int k), some (.int v2), some (.int a3.2), some (.int (Int32.ofNat i3)), u3_5]) (st1 := [.ref 123, .int a3.2]) (s1 := (uset a3.1 127 k.toNatClampNeg (Int32.ofNat i3))) rfl ?_
    refine UP.cB (M1 := m_X7_isSeen) (as := [.ref 123]) (rest := [.int a3.2]) (T := F_isSeen (uset a3.1 127 k.toNatClampNeg (Int32.ofNat i3)) ) rfl rfl (ux_isSeen (uset a3.1 127 k.toNatClampNeg (Int32.ofNat i3)) ) (fun z4 e4 => ?_)
    refine mrg (m_cmp .eq z4.1 0) (0 : Int32) (1 <<< ((Int32.ofNat i3) &&& 31)) (fun v5 : Int32 => UP m_X7_powersBy 28 [some (.ref 123), some (.int k), some (.int v2), some (.int a3.2), some (.int (Int32.ofNat i3)), u3_5] [.int v5, .int a3.2] z4.2 (Qb (F_powersBy s k))) (fun cc kk => ?_) (fun cc kk => ?_) (fun v5 e5 => ?_)
    · skip
      refine UP.ifT rfl cc ?_
      refine UP.stp 1 (i1 := 28) (L1 := [some (.ref 123), some (.int k), some (.int v2), some (.int a3.2), some (.int (Int32.ofNat i3)), u3_5]) (st1 := [.int 0, .int a3.2]) (s1 := z4.2) rfl ?_
      exact kk
    · skip
      refine UP.ifF rfl cc ?_
      refine UP.stp 4 (i1 := 28) (L1 := [some (.ref 123), some (.int k), some (.int v2), some (.int a3.2), some (.int (Int32.ofNat i3)), u3_5]) (st1 := [.int (1 <<< ((Int32.ofNat i3) &&& 31)), .int a3.2]) (s1 := z4.2) rfl ?_
      exact kk
    refine UP.stp 1 (i1 := 29) (L1 := [some (.ref 123), some (.int k), some (.int v2), some (.int a3.2), some (.int (Int32.ofNat i3)), u3_5]) (st1 := [.int (a3.2 ||| v5)]) (s1 := z4.2) rfl ?_
    refine nm (G := fun v6 => UP m_X7_powersBy 29 [some (.ref 123), some (.int k), some (.int v2), some (.int a3.2), some (.int (Int32.ofNat i3)), u3_5] [.int v6] z4.2 (Qb (F_powersBy s k))) (a3.2 ||| v5) (fun v6 e6 => ?_)
    refine UP.stp 3 (i1 := 32) (L1 := [some (.ref 123), some (.int k), some (.int v2), some (.int v6), some (.int (Int32.ofNat i3)), some (.int 0)]) (st1 := []) (s1 := z4.2) rfl ?_
    refine lp (fun (i7 : Nat) (a7 : SG) => UP m_X7_powersBy 32 [some (.ref 123), some (.int k), some (.int v2), some (.int v6), some (.int (Int32.ofNat i3)), some (.int (Int32.ofNat i7))] [] a7 (Qb (F_powersBy s k))) (fun (_ : Nat) (a7 : SG) => Fr W_powersBy z4.2 a7) (B_powersBy_32 i3) (24) (fun i7 a7 hi7 g7 => g7.tr (fr_B_powersBy_32 i3 i7 a7 hi7)) (fun i7 a7 hi7 g7 kk => ?_) 24 (0) z4.2 (by  omega) (Fr.rf _ _) (fun z7 e7 g7 => ?_)
    · skip
      refine UP.stp 2 (i1 := 34) (L1 := [some (.ref 123), some (.int k), some (.int v2), some (.int v6), some (.int (Int32.ofNat i3)), some (.int (Int32.ofNat i7))]) (st1 := [.int 24, .int (Int32.ofNat i7)]) (s1 := a7) rfl ?_
      refine UP.icF rfl (ge_F (show i7 < (24 : Int32).toNatClampNeg from hi7)) ?_
      refine UP.stp 10 (i1 := 45) (L1 := [some (.ref 123), some (.int k), some (.int v2), some (.int v6), some (.int (Int32.ofNat i3)), some (.int (Int32.ofNat i7))]) (st1 := [.int (Int32.ofNat i7), .ref 140, .int ((24 * (Int32.ofNat i3)) + (Int32.ofNat i7)), .ref 147]) (s1 := a7) rfl ?_
      refine UP.ald (e := i7) rfl rfl (by omega) ?_
      show UP m_X7_powersBy 46 [some (.ref 123), some (.int k), some (.int v2), some (.int v6), some (.int (Int32.ofNat i3)), some (.int (Int32.ofNat i7))] [.int (a7 140 i7), .int ((24 * (Int32.ofNat i3)) + (Int32.ofNat i7)), .ref 147] a7 (Qb (F_powersBy s k))
      refine nm (G := fun v8 => UP m_X7_powersBy 46 [some (.ref 123), some (.int k), some (.int v2), some (.int v6), some (.int (Int32.ofNat i3)), some (.int (Int32.ofNat i7))] [.int v8, .int ((24 * (Int32.ofNat i3)) + (Int32.ofNat i7)), .ref 147] a7 (Qb (F_powersBy s k))) (a7 140 i7) (fun v8 e8 => ?_)
      refine UP.ast (e := 24 * i3 + i7) rfl (ofn_add (ofn_mul rfl rfl) rfl) (by omega) ?_
      show UP m_X7_powersBy 47 [some (.ref 123), some (.int k), some (.int v2), some (.int v6), some (.int (Int32.ofNat i3)), some (.int (Int32.ofNat i7))] [] (uset a7 147 (24 * i3 + i7) v8) (Qb (F_powersBy s k))
      refine UP.stp 2 (i1 := 32) (L1 := [some (.ref 123), some (.int k), some (.int v2), some (.int v6), some (.int (Int32.ofNat i3)), some (.int ((Int32.ofNat i7) + 1))]) (st1 := []) (s1 := (uset a7 147 (24 * i3 + i7) v8)) rfl ?_
      subst e8
      rw [ofn_s]
      try dsimp only [B_powersBy_32] at kk
      exact kk
    refine UP.stp 2 (i1 := 34) (L1 := [some (.ref 123), some (.int k), some (.int v2), some (.int v6), some (.int (Int32.ofNat i3)), some (.int (Int32.ofNat 24))]) (st1 := [.int 24, .int (Int32.ofNat 24)]) (s1 := z7) rfl ?_
    refine UP.icT rfl (ge_T (24 : Int32)) ?_
    refine UP.stp 2 (i1 := 11) (L1 := [some (.ref 123), some (.int k), some (.int v2), some (.int v6), some (.int ((Int32.ofNat i3) + 1)), some (.int (Int32.ofNat 24))]) (st1 := []) (s1 := z7) rfl ?_
    subst e7 e6 e5 e4
    rw [ofn_s]
    try dsimp only [B_powersBy_11] at kk
    exact kk _
  intro u3_5
  refine UP.stp 2 (i1 := 13) (L1 := [some (.ref 123), some (.int k), some (.int v2), some (.int z3.2), some (.int (Int32.ofNat 10)), u3_5]) (st1 := [.int 10, .int (Int32.ofNat 10)]) (s1 := z3.1) rfl ?_
  refine UP.icT rfl (ge_T (10 : Int32)) ?_
  refine UP.stp 6 (i1 := 57) (L1 := [some (.ref 123), some (.int k), some (.int v2), some (.int z3.2), some (.int (Int32.ofNat 10)), u3_5]) (st1 := [.int z3.2]) (s1 := (uset z3.1 127 k.toNatClampNeg v2)) rfl ?_
  exact UP.ret (r := some (.int z3.2)) rfl ⟨by subst e3 e2 e1; first | (dsimp only [F_powersBy]; done) | (dsimp only; done) | rfl, by subst e3 e2 e1; first | (dsimp only [F_powersBy]; done) | (dsimp only; done) | rfl⟩
