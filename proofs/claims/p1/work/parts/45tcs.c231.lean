def W_possiblePowers : List (Nat × Nat × Option Nat) := [(16, 20, none), (22, 45, none), (46, 52, none), (15, 15, some 8), (59, 63, none), (65, 88, none), (89, 95, none), (58, 58, some 8), (53, 57, none), (96, 108, none), (0, 0, some 12), (0, 0, some 13)]
def B_possiblePowers_9 (seat : Int32) (i2 : Nat) (a2 : SG × Int32) : SG × Int32 := let z3 := F_rowOther (uset a2.1 55 seat.toNatClampNeg (Int32.ofNat i2)) ; let w6 := bif m_cmp .eq (F_agreeWith z3) 0 then (a2.2, z3) else ((a2.2 ||| (1 <<< ((Int32.ofNat i2) &&& 31))), (mvs z3 60 0 (98 + i2) 0 24)); (w6.2, w6.1)
set_option maxRecDepth 20000 in
set_option maxHeartbeats 200000 in
theorem fr_B_possiblePowers_9 (seat : Int32) (i2 : Nat) (a2 : SG × Int32)  (hi2 : i2 < 10) : Fr W_possiblePowers a2.1 ((B_possiblePowers_9 seat) i2 a2).1 := by dsimp only [B_possiblePowers_9]; exact (let z3 : SG := F_rowOther (uset a2.1 55 seat.toNatClampNeg (Int32.ofNat i2)) ; (Fr.bifp (b := m_cmp .eq (F_agreeWith z3) 0) (x := (a2.2, z3)) (y := ((a2.2 ||| (1 <<< ((Int32.ofNat i2) &&& 31))), (mvs z3 60 0 (98 + i2) 0 24))) (fun x : Int32 × SG => x.2) (by (try dsimp only); exact (Fr.tr (s1 := (uset a2.1 55 seat.toNatClampNeg (Int32.ofNat i2))) (Fr.uset (s1 := a2.1) (a := 55) (j := seat.toNatClampNeg) (x := Int32.ofNat i2) (by rfl) (Fr.rf _ _)) (Fr.wk (W2 := W_possiblePowers) (fr_rowOther (uset a2.1 55 seat.toNatClampNeg (Int32.ofNat i2)) ) (by rfl)))) (by (try dsimp only); exact (frMvsR 96 108 (by omega) (by omega) rfl (Fr.tr (s1 := (uset a2.1 55 seat.toNatClampNeg (Int32.ofNat i2))) (Fr.uset (s1 := a2.1) (a := 55) (j := seat.toNatClampNeg) (x := Int32.ofNat i2) (by rfl) (Fr.rf _ _)) (Fr.wk (W2 := W_possiblePowers) (fr_rowOther (uset a2.1 55 seat.toNatClampNeg (Int32.ofNat i2)) ) (by rfl)))))))
def F_possiblePowers (s : SG) (seat : Int32) : Int32 × SG := let z1 := F_take s ; let z2 := itr (B_possiblePowers_9 seat) 1 (10 - 1) (z1, 0); (z2.2, z2.1)
set_option maxRecDepth 20000 in
set_option maxHeartbeats 200000 in
theorem fr_possiblePowers (s : SG) (seat : Int32)  : Fr W_possiblePowers s (F_possiblePowers s seat).2 := by dsimp only [F_possiblePowers]; exact (let z1 : SG := F_take s ; (frItrB (W := W_possiblePowers) (m := (fun x : SG × Int32 => x.1)) (f := (B_possiblePowers_9 seat)) 10 (fun ii aa hh => Fr.wk (W2 := W_possiblePowers) (fr_B_possiblePowers_9 seat ii aa  hh) (by rfl)) (10 - 1) 1 (z1, 0) (by omega) (Fr.tr (s1 := s) (Fr.rf _ _) (Fr.wk (W2 := W_possiblePowers) (fr_take s ) (by rfl)))))
set_option maxRecDepth 20000 in
set_option maxHeartbeats 200000 in
theorem ux_possiblePowers (s : SG) (seat : Int32)  : UP m_X6_possiblePowers 0 (m_ent 4 [.ref 0, .int seat]) [] s (Qb (F_possiblePowers s seat)) := by
  refine UP.stp 4 (i1 := 4) (L1 := [some (.ref 0), some (.int seat), none, none]) (st1 := [.ref 10, .ref 53]) (s1 := s) rfl ?_
  refine UP.cV (M1 := m_X0_take) (as := [.ref 53, .ref 10]) (rest := []) (T := F_take s ) rfl rfl (ux_take s ) (fun z1 e1 => ?_)
  refine UP.stp 4 (i1 := 9) (L1 := [some (.ref 0), some (.int seat), some (.int 0), some (.int 1)]) (st1 := []) (s1 := z1) rfl ?_
  refine lp (fun (i2 : Nat) (a2 : SG × Int32) => UP m_X6_possiblePowers 9 [some (.ref 0), some (.int seat), some (.int a2.2), some (.int (Int32.ofNat i2))] [] a2.1 (Qb (F_possiblePowers s seat))) (fun (_ : Nat) (a2 : SG × Int32) => Fr W_possiblePowers z1 a2.1) (B_possiblePowers_9 seat) (10) (fun i2 a2 hi2 g2 => g2.tr (fr_B_possiblePowers_9 seat i2 a2 hi2)) (fun i2 a2 hi2 g2 kk => ?_) (10 - 1) (1) (z1, 0) (by  omega) (Fr.rf _ _) (fun z2 e2 g2 => ?_)
  · skip
    refine UP.stp 2 (i1 := 11) (L1 := [some (.ref 0), some (.int seat), some (.int a2.2), some (.int (Int32.ofNat i2))]) (st1 := [.int 9, .int (Int32.ofNat i2)]) (s1 := a2.1) rfl ?_
    refine UP.icF rfl (gt_F (show i2 ≤ (9 : Int32).toNatClampNeg from Nat.le_of_lt_succ hi2) (by decide)) ?_
    refine UP.stp 9 (i1 := 21) (L1 := [some (.ref 0), some (.int seat), some (.int a2.2), some (.int (Int32.ofNat i2))]) (st1 := [.ref 0, .ref 6]) (s1 := (uset a2.1 55 seat.toNatClampNeg (Int32.ofNat i2))) rfl ?_
    refine UP.cR (M1 := m_X6_rowOther) (as := [.ref 0]) (rest := [.ref 6]) (T := F_rowOther (uset a2.1 55 seat.toNatClampNeg (Int32.ofNat i2)) ) (a := 58) rfl rfl (ux_rowOther (uset a2.1 55 seat.toNatClampNeg (Int32.ofNat i2)) ) (fun z3 e3 => ?_)
    refine UP.cI (M1 := m_X2_agreeWith) (as := [.ref 6, .ref 58]) (rest := []) (T := F_agreeWith z3 ) rfl rfl (ux_agreeWith z3 ) ?_
    refine mrg (m_cmp .eq (F_agreeWith z3) 0) (a2.2, z3) ((a2.2 ||| (1 <<< ((Int32.ofNat i2) &&& 31))), (mvs z3 60 0 (98 + i2) 0 24)) (fun w6 : Int32 × SG => UP m_X6_possiblePowers 41 [some (.ref 0), some (.int seat), some (.int w6.1), some (.int (Int32.ofNat i2))] [] w6.2 (Qb (F_possiblePowers s seat))) (fun cc kk => ?_) (fun cc kk => ?_) (fun w6 e6 => ?_)
    · skip
      refine UP.ifT rfl cc ?_
      exact kk
    · skip
      refine UP.ifF rfl cc ?_
      refine UP.stp 5 (i1 := 29) (L1 := [some (.ref 0), some (.int seat), some (.int a2.2), some (.int (Int32.ofNat i2))]) (st1 := [.int (a2.2 ||| (1 <<< ((Int32.ofNat i2) &&& 31)))]) (s1 := z3) rfl ?_
      refine nm (G := fun v5 => UP m_X6_possiblePowers 29 [some (.ref 0), some (.int seat), some (.int a2.2), some (.int (Int32.ofNat i2))] [.int v5] z3 (Qb (F_possiblePowers s seat))) (a2.2 ||| (1 <<< ((Int32.ofNat i2) &&& 31))) (fun v5 e5 => ?_)
      refine UP.stp 8 (i1 := 37) (L1 := [some (.ref 0), some (.int seat), some (.int v5), some (.int (Int32.ofNat i2))]) (st1 := [.int (Int32.ofNat i2), .ref 97, .int 0, .ref 60]) (s1 := z3) rfl ?_
      refine UP.aald (e := i2) (r := 98 + i2) rfl rfl (by omega) rfl ?_
      refine UP.stp 3 (i1 := 41) (L1 := [some (.ref 0), some (.int seat), some (.int v5), some (.int (Int32.ofNat i2))]) (st1 := []) (s1 := (mvs z3 60 0 (98 + i2) 0 24)) rfl ?_
      subst e5
      exact kk
    refine UP.stp 2 (i1 := 9) (L1 := [some (.ref 0), some (.int seat), some (.int w6.1), some (.int ((Int32.ofNat i2) + 1))]) (st1 := []) (s1 := w6.2) rfl ?_
    subst e6 e3
    rw [ofn_s]
    try dsimp only [B_possiblePowers_9] at kk
    exact kk
  refine UP.stp 2 (i1 := 11) (L1 := [some (.ref 0), some (.int seat), some (.int z2.2), some (.int (Int32.ofNat 10))]) (st1 := [.int 9, .int (Int32.ofNat 10)]) (s1 := z2.1) rfl ?_
  refine UP.icT rfl (gt_T (v := 9) (by decide) (by decide)) ?_
  refine UP.stp 1 (i1 := 44) (L1 := [some (.ref 0), some (.int seat), some (.int z2.2), some (.int (Int32.ofNat 10))]) (st1 := [.int z2.2]) (s1 := z2.1) rfl ?_
  exact UP.ret (r := some (.int z2.2)) rfl ⟨by subst e2 e1; first | (dsimp only [F_possiblePowers]; done) | (dsimp only; done) | rfl, by subst e2 e1; first | (dsimp only [F_possiblePowers]; done) | (dsimp only; done) | rfl⟩
def W_possibleSorts : List (Nat × Nat × Option Nat) := [(16, 20, none), (22, 45, none), (46, 52, none), (15, 15, some 8), (59, 63, none), (65, 88, none), (89, 95, none), (58, 58, some 8), (53, 57, none), (96, 108, none), (0, 0, some 12), (0, 0, some 13)]
def B_possibleSorts_9 (seat : Int32) (i2 : Nat) (a2 : SG × Int32) : SG × Int32 := let z3 := F_rowOther (uset a2.1 54 seat.toNatClampNeg (Int32.ofNat i2)) ; let v6 := bif m_cmp .eq (F_agreeWith z3) 0 then a2.2 else (a2.2 ||| (1 <<< ((Int32.ofNat i2) &&& 31))); (z3, v6)
set_option maxRecDepth 20000 in
set_option maxHeartbeats 200000 in
theorem fr_B_possibleSorts_9 (seat : Int32) (i2 : Nat) (a2 : SG × Int32)  (hi2 : i2 < 3) : Fr W_possibleSorts a2.1 ((B_possibleSorts_9 seat) i2 a2).1 := by dsimp only [B_possibleSorts_9]; exact (Fr.tr (s1 := (uset a2.1 54 seat.toNatClampNeg (Int32.ofNat i2))) (Fr.uset (s1 := a2.1) (a := 54) (j := seat.toNatClampNeg) (x := Int32.ofNat i2) (by rfl) (Fr.rf _ _)) (Fr.wk (W2 := W_possibleSorts) (fr_rowOther (uset a2.1 54 seat.toNatClampNeg (Int32.ofNat i2)) ) (by rfl)))
def F_possibleSorts (s : SG) (seat : Int32) : Int32 × SG := let z1 := F_take s ; let z2 := itr (B_possibleSorts_9 seat) 0 3 (z1, 0); (z2.2, z2.1)
set_option maxRecDepth 20000 in
set_option maxHeartbeats 200000 in
theorem fr_possibleSorts (s : SG) (seat : Int32)  : Fr W_possibleSorts s (F_possibleSorts s seat).2 := by dsimp only [F_possibleSorts]; exact (let z1 : SG := F_take s ; (frItrB (W := W_possibleSorts) (m := (fun x : SG × Int32 => x.1)) (f := (B_possibleSorts_9 seat)) 3 (fun ii aa hh => Fr.wk (W2 := W_possibleSorts) (fr_B_possibleSorts_9 seat ii aa  hh) (by rfl)) 3 0 (z1, 0) (by omega) (Fr.tr (s1 := s) (Fr.rf _ _) (Fr.wk (W2 := W_possibleSorts) (fr_take s ) (by rfl)))))
set_option maxRecDepth 20000 in
set_option maxHeartbeats 200000 in
theorem ux_possibleSorts (s : SG) (seat : Int32)  : UP m_X6_possibleSorts 0 (m_ent 4 [.ref 0, .int seat]) [] s (Qb (F_possibleSorts s seat)) := by
  refine UP.stp 4 (i1 := 4) (L1 := [some (.ref 0), some (.int seat), none, none]) (st1 := [.ref 10, .ref 53]) (s1 := s) rfl ?_
  refine UP.cV (M1 := m_X0_take) (as := [.ref 53, .ref 10]) (rest := []) (T := F_take s ) rfl rfl (ux_take s ) (fun z1 e1 => ?_)
  refine UP.stp 4 (i1 := 9) (L1 := [some (.ref 0), some (.int seat), some (.int 0), some (.int 0)]) (st1 := []) (s1 := z1) rfl ?_
  refine lp (fun (i2 : Nat) (a2 : SG × Int32) => UP m_X6_possibleSorts 9 [some (.ref 0), some (.int seat), some (.int a2.2), some (.int (Int32.ofNat i2))] [] a2.1 (Qb (F_possibleSorts s seat))) (fun (_ : Nat) (a2 : SG × Int32) => Fr W_possibleSorts z1 a2.1) (B_possibleSorts_9 seat) (3) (fun i2 a2 hi2 g2 => g2.tr (fr_B_possibleSorts_9 seat i2 a2 hi2)) (fun i2 a2 hi2 g2 kk => ?_) 3 (0) (z1, 0) (by  omega) (Fr.rf _ _) (fun z2 e2 g2 => ?_)
  · skip
    refine UP.stp 2 (i1 := 11) (L1 := [some (.ref 0), some (.int seat), some (.int a2.2), some (.int (Int32.ofNat i2))]) (st1 := [.int 3, .int (Int32.ofNat i2)]) (s1 := a2.1) rfl ?_
    refine UP.icF rfl (ge_F (show i2 < (3 : Int32).toNatClampNeg from hi2)) ?_
    refine UP.stp 9 (i1 := 21) (L1 := [some (.ref 0), some (.int seat), some (.int a2.2), some (.int (Int32.ofNat i2))]) (st1 := [.ref 0, .ref 6]) (s1 := (uset a2.1 54 seat.toNatClampNeg (Int32.ofNat i2))) rfl ?_
    refine UP.cR (M1 := m_X6_rowOther) (as := [.ref 0]) (rest := [.ref 6]) (T := F_rowOther (uset a2.1 54 seat.toNatClampNeg (Int32.ofNat i2)) ) (a := 58) rfl rfl (ux_rowOther (uset a2.1 54 seat.toNatClampNeg (Int32.ofNat i2)) ) (fun z3 e3 => ?_)
    refine UP.cI (M1 := m_X2_agreeWith) (as := [.ref 6, .ref 58]) (rest := []) (T := F_agreeWith z3 ) rfl rfl (ux_agreeWith z3 ) ?_
    refine mrg (m_cmp .eq (F_agreeWith z3) 0) a2.2 (a2.2 ||| (1 <<< ((Int32.ofNat i2) &&& 31))) (fun v6 : Int32 => UP m_X6_possibleSorts 30 [some (.ref 0), some (.int seat), some (.int v6), some (.int (Int32.ofNat i2))] [] z3 (Qb (F_possibleSorts s seat))) (fun cc kk => ?_) (fun cc kk => ?_) (fun v6 e6 => ?_)
    · skip
      refine UP.ifT rfl cc ?_
      exact kk
    · skip
      refine UP.ifF rfl cc ?_
      refine UP.stp 5 (i1 := 29) (L1 := [some (.ref 0), some (.int seat), some (.int a2.2), some (.int (Int32.ofNat i2))]) (st1 := [.int (a2.2 ||| (1 <<< ((Int32.ofNat i2) &&& 31)))]) (s1 := z3) rfl ?_
      refine nm (G := fun v5 => UP m_X6_possibleSorts 29 [some (.ref 0), some (.int seat), some (.int a2.2), some (.int (Int32.ofNat i2))] [.int v5] z3 (Qb (F_possibleSorts s seat))) (a2.2 ||| (1 <<< ((Int32.ofNat i2) &&& 31))) (fun v5 e5 => ?_)
      refine UP.stp 1 (i1 := 30) (L1 := [some (.ref 0), some (.int seat), some (.int v5), some (.int (Int32.ofNat i2))]) (st1 := []) (s1 := z3) rfl ?_
      subst e5
      exact kk
    refine UP.stp 2 (i1 := 9) (L1 := [some (.ref 0), some (.int seat), some (.int v6), some (.int ((Int32.ofNat i2) + 1))]) (st1 := []) (s1 := z3) rfl ?_
    subst e6 e3
    rw [ofn_s]
    try dsimp only [B_possibleSorts_9] at kk
    exact kk
  refine UP.stp 2 (i1 := 11) (L1 := [some (.ref 0), some (.int seat), some (.int z2.2), some (.int (Int32.ofNat 3))]) (st1 := [.int 3, .int (Int32.ofNat 3)]) (s1 := z2.1) rfl ?_
  refine UP.icT rfl (ge_T (3 : Int32)) ?_
  refine UP.stp 1 (i1 := 33) (L1 := [some (.ref 0), some (.int seat), some (.int z2.2), some (.int (Int32.ofNat 3))]) (st1 := [.int z2.2]) (s1 := z2.1) rfl ?_
  exact UP.ret (r := some (.int z2.2)) rfl ⟨by subst e2 e1; first | (dsimp only [F_possibleSorts]; done) | (dsimp only; done) | rfl, by subst e2 e1; first | (dsimp only [F_possibleSorts]; done) | (dsimp only; done) | rfl⟩
