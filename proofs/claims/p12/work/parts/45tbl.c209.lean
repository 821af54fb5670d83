def W_possiblePowers : List (Nat × Nat × Option Nat) := [(16, 20, none), (22, 45, none), (46, 52, none), (15, 15, some 8), (59, 63, none), (65, 88, none), (89, 95, none), (58, 58, some 8), (54, 57, none), (53, 53, none), (96, 108, none), (0, 0, some 12), (0, 0, some 13)]
def B_possiblePowers_9 (seat : Int32) (i2 : Nat) (a2 : SG × Int32) : SG × Int32 := let z3 := F_rowOther (uset a2.1 55 seat.toNatClampNeg (Int32.ofNat i2)) ; let w6 := bif m_cmp .eq (F_agreeWith z3) 0 then (a2.2, z3) else ((a2.2 ||| (1 <<< ((Int32.ofNat i2) &&& 31))), (mvs z3 60 0 (98 + i2) 0 24)); (w6.2, w6.1)
theorem fr_B_possiblePowers_9 (seat : Int32) (i2 : Nat) (a2 : SG × Int32)  (hi2 : i2 < 10) : Fr W_possiblePowers a2.1 ((B_possiblePowers_9 seat) i2 a2).1 := by dsimp only [B_possiblePowers_9]; exact (let z3 : SG := F_rowOther (uset a2.1 55 seat.toNatClampNeg (Int32.ofNat i2)) ; (Fr.bifp (b := m_cmp .eq (F_agreeWith z3) 0) (x := (a2.2, z3)) (y := ((a2.2 ||| (1 <<< ((Int32.ofNat i2) &&& 31))), (mvs z3 60 0 (98 + i2) 0 24))) (fun x : Int32 × SG => x.2) (Fr.tr (s1 := (uset a2.1 55 seat.toNatClampNeg (Int32.ofNat i2))) (Fr.uset (s1 := a2.1) (a := 55) (j := seat.toNatClampNeg) (x := Int32.ofNat i2) (by rfl) (Fr.rf _ _)) (Fr.wk (W2 := W_possiblePowers) (fr_rowOther (uset a2.1 55 seat.toNatClampNeg (Int32.ofNat i2)) ) (by rfl))) (Fr.mvs (by rfl) (Fr.tr (s1 := (uset a2.1 55 seat.toNatClampNeg (Int32.ofNat i2))) (Fr.uset (s1 := a2.1) (a := 55) (j := seat.toNatClampNeg) (x := Int32.ofNat i2) (by rfl) (Fr.rf _ _)) (Fr.wk (W2 := W_possiblePowers) (fr_rowOther (uset a2.1 55 seat.toNatClampNeg (Int32.ofNat i2)) ) (by rfl))))))
def F_possiblePowers (s : SG) (seat : Int32) : Int32 × SG := let z1 := F_take s ; let z2 := itr (B_possiblePowers_9 seat) 1 (10 - 1) (z1, 0); (z2.2, z2.1)
theorem fr_possiblePowers (s : SG) (seat : Int32)  : Fr W_possiblePowers s (F_possiblePowers s seat).2 := by dsimp only [F_possiblePowers]; exact (frItrB (W := W_possiblePowers) (m := (fun x : SG × Int32 => x.1)) 10 (fun i a h => Fr.wk (W2 := W_possiblePowers) (fr_B_possiblePowers_9 seat i a  h) (by rfl)) _ _ _ (by omega) (Fr.tr (s1 := s) (Fr.rf _ _) (Fr.wk (W2 := W_possiblePowers) (fr_take s ) (by rfl))))
theorem ux_possiblePowers (s : SG) (seat : Int32)  : UP m_X6_possiblePowers 0 (m_ent 4 [.ref 0, .int seat]) [] s (Qb (F_possiblePowers s seat)) := by
  refine UP.stp 4 (i1 := 4) (L1 := [some (.ref 0), some (.int seat), none, none]) (st1 := [.ref 10, .ref 53]) (s1 := s) rfl ?_
  refine UP.cV (M1 := m_X0_take) (as := [.ref 53, .ref 10]) (rest := []) (T := F_take s ) rfl rfl (ux_take s ) (fun z1 e1 => ?_)
  refine UP.stp 4 (i1 := 9) (L1 := [some (.ref 0), some (.int seat), some (.int 0), some (.int 1)]) (st1 := []) (s1 := z1) rfl ?_
  refine lp (fun (i2 : Nat) (a2 : SG × Int32) => UP m_X6_possiblePowers 9 [some (.ref 0), some (.int seat), some (.int a2.2), some (.int (Int32.ofNat i2))] [] a2.1 (Qb (F_possiblePowers s seat))) (fun (_ : Nat) (a2 : SG × Int32) => Fr W_possiblePowers z1 a2.1) (B_possiblePowers_9 seat) (10) (fun i2 a2 hi2 g2 => g2.tr (fr_B_possiblePowers_9 seat i2 a2 hi2)) (fun i2 a2 hi2 g2 kk => ?_) (10 - 1) (1) (z1, 0) (by omega) (Fr.rf _ _) (fun z2 e2 g2 => ?_)
  · skip
    refine UP.stp 2 (i1 := 11) (L1 := [some (.ref 0), some (.int seat), some (.int a2.2), some (.int (Int32.ofNat i2))]) (st1 := [.int 9, .int (Int32.ofNat i2)]) (s1 := a2.1) rfl ?_
    refine UP.icF rfl (gt_F (show i2 ≤ (9 : Int32).toNatClampNeg from Nat.le_of_lt_succ hi2) (by decide)) ?_
    refine UP.stp 9 (i1 := 21) (L1 := [some (.ref 0), some (.int seat), some (.int a2.2), some (.int (Int32.ofNat i2))]) (st1 := [.ref 0, .ref 6]) (s1 := (uset a2.1 55 seat.toNatClampNeg (Int32.ofNat i2))) rfl ?_
    refine UP.cR (M1 := m_X6_rowOther) (as := [.ref 0]) (rest := [.ref 6]) (T := F_rowOther (uset a2.1 55 seat.toNatClampNeg (Int32.ofNat i2)) ) (a := 58) rfl rfl (ux_rowOther (uset a2.1 55 seat.toNatClampNeg (Int32.ofNat i2)) ) (fun z3 e3 => ?_)
    refine UP.cI (M1 := m_X2_agreeWith) (as := [.ref 6, .ref 58]) (rest := []) (T := F_agreeWith z3 ) rfl rfl (ux_agreeWith z3 ) ?_
    refine mrg (m_cmp .eq (F_agreeWith z3) 0) (a2.2, z3) ((a2.2 ||| (1 <<< ((Int32.ofNat i2) &&& 31))), (mvs z3 60 0 (98 + i2) 0 24)) (fun w6 : Int32 × SG => UP m_X6_possiblePowers 41 [some (.ref 0), some (.int seat), some (.int w6.1), some (.int (Int32.ofNat i2))] [] w6.2 (Qb (F_possiblePowers s seat))) (fun cc kk => ?_) (fun cc kk => ?_) (fun w6 e6 => ?_)
    · skip
      refine UP.ifT rfl cc ?_
      exact kk
    · skip
      refine UP.ifF rfl cc ?_
      refine UP.stp 5 (i1 := 29) (L1 := [some (.ref 0), some (.int seat), some (.int a2.2), some (.int (Int32.ofNat i2))]) (st1 := [.int (a2.2 ||| (1 <<< ((Int32.ofNat i2) &&& 31)))]) (s1 := z3) rfl ?_
      refine nm (G := fun v5 => UP m_X6_possiblePowers 29 [some (.ref 0), some (.int seat), some (.int a2.2), some (.int (Int32.ofNat i2))] [.int v5] z3 (Qb (F_possiblePowers s seat))) (a2.2 ||| (1 <<< ((Int32.ofNat i2) &&& 31))) (fun v5 e5 => ?_)
      refine UP.stp 8 (i1 := 37) (L1 := [some (.ref 0), some (.int seat), some (.int v5), some (.int (Int32.ofNat i2))]) (st1 := [.int (Int32.ofNat i2), .ref 97, .int 0, .ref 60]) (s1 := z3) rfl ?_
      refine UP.aald (e := i2) (r := 98 + i2) rfl rfl (by omega) rfl ?_
      refine UP.stp 3 (i1 := 41) (L1 := [some (.ref 0), some (.int seat), some (.int v5), some (.int (Int32.ofNat i2))]) (st1 := []) (s1 := (mvs z3 60 0 (98 + i2) 0 24)) rfl ?_
      subst e5
      exact kk
    refine UP.stp 2 (i1 := 9) (L1 := [some (.ref 0), some (.int seat), some (.int w6.1), some (.int ((Int32.ofNat i2) + 1))]) (st1 := []) (s1 := w6.2) rfl ?_
    subst e6 e3
    rw [ofn_s]
    exact kk
  refine UP.stp 2 (i1 := 11) (L1 := [some (.ref 0), some (.int seat), some (.int z2.2), some (.int (Int32.ofNat 10))]) (st1 := [.int 9, .int (Int32.ofNat 10)]) (s1 := z2.1) rfl ?_
  refine UP.icT rfl (gt_T (v := 9) (by decide) (by decide)) ?_
  refine UP.stp 1 (i1 := 44) (L1 := [some (.ref 0), some (.int seat), some (.int z2.2), some (.int (Int32.ofNat 10))]) (st1 := [.int z2.2]) (s1 := z2.1) rfl ?_
  exact UP.ret (r := some (.int z2.2)) rfl ⟨by subst e2 e1; rfl, by subst e2 e1; rfl⟩
def W_possibleSorts : List (Nat × Nat × Option Nat) := [(16, 20, none), (22, 45, none), (46, 52, none), (15, 15, some 8), (59, 63, none), (65, 88, none), (89, 95, none), (58, 58, some 8), (54, 57, none), (53, 53, none), (96, 108, none), (0, 0, some 12), (0, 0, some 13)]
def B_possibleSorts_9 (seat : Int32) (i2 : Nat) (a2 : SG × Int32) : SG × Int32 := let z3 := F_rowOther (uset a2.1 54 seat.toNatClampNeg (Int32.ofNat i2)) ; let v6 := bif m_cmp .eq (F_agreeWith z3) 0 then a2.2 else (a2.2 ||| (1 <<< ((Int32.ofNat i2) &&& 31))); (z3, v6)
theorem fr_B_possibleSorts_9 (seat : Int32) (i2 : Nat) (a2 : SG × Int32)  (hi2 : i2 < 3) : Fr W_possibleSorts a2.1 ((B_possibleSorts_9 seat) i2 a2).1 := by dsimp only [B_possibleSorts_9]; exact (Fr.tr (s1 := (uset a2.1 54 seat.toNatClampNeg (Int32.ofNat i2))) (Fr.uset (s1 := a2.1) (a := 54) (j := seat.toNatClampNeg) (x := Int32.ofNat i2) (by rfl) (Fr.rf _ _)) (Fr.wk (W2 := W_possibleSorts) (fr_rowOther (uset a2.1 54 seat.toNatClampNeg (Int32.ofNat i2)) ) (by rfl)))
def F_possibleSorts (s : SG) (seat : Int32) : Int32 × SG := let z1 := F_take s ; let z2 := itr (B_possibleSorts_9 seat) 0 3 (z1, 0); (z2.2, z2.1)
theorem fr_possibleSorts (s : SG) (seat : Int32)  : Fr W_possibleSorts s (F_possibleSorts s seat).2 := by dsimp only [F_possibleSorts]; exact (frItrB (W := W_possibleSorts) (m := (fun x : SG × Int32 => x.1)) 3 (fun i a h => Fr.wk (W2 := W_possibleSorts) (fr_B_possibleSorts_9 seat i a  h) (by rfl)) _ _ _ (by omega) (Fr.tr (s1 := s) (Fr.rf _ _) (Fr.wk (W2 := W_possibleSorts) (fr_take s ) (by rfl))))
theorem ux_possibleSorts (s : SG) (seat : Int32)  : UP m_X6_possibleSorts 0 (m_ent 4 [.ref 0, .int seat]) [] s (Qb (F_possibleSorts s seat)) := by
  refine UP.stp 4 (i1 := 4) (L1 := [some (.ref 0), some (.int seat), none, none]) (st1 := [.ref 10, .ref 53]) (s1 := s) rfl ?_
  refine UP.cV (M1 := m_X0_take) (as := [.ref 53, .ref 10]) (rest := []) (T := F_take s ) rfl rfl (ux_take s ) (fun z1 e1 => ?_)
  refine UP.stp 4 (i1 := 9) (L1 := [some (.ref 0), some (.int seat), some (.int 0), some (.int 0)]) (st1 := []) (s1 := z1) rfl ?_
  refine lp (fun (i2 : Nat) (a2 : SG × Int32) => UP m_X6_possibleSorts 9 [some (.ref 0), some (.int seat), some (.int a2.2), some (.int (Int32.ofNat i2))] [] a2.1 (Qb (F_possibleSorts s seat))) (fun (_ : Nat) (a2 : SG × Int32) => Fr W_possibleSorts z1 a2.1) (B_possibleSorts_9 seat) (3) (fun i2 a2 hi2 g2 => g2.tr (fr_B_possibleSorts_9 seat i2 a2 hi2)) (fun i2 a2 hi2 g2 kk => ?_) 3 (0) (z1, 0) (by omega) (Fr.rf _ _) (fun z2 e2 g2 => ?_)
  · skip
    refine UP.stp 2 (i1 := 11) (L1 := [some (.ref 0), some (.int seat), some (.int a2.2), some (.int (Int32.ofNat i2))]) (st1 := [.int 3, .int (Int32.ofNat i2)]) (s1 := a2.1) rfl ?_
    refine UP.icF rfl (ge_F (show i2 < (3 : Int32).toNatClampNeg from hi2)) ?_
    refine UP.stp 9 (i1 := 21) (L1 := [some (.ref 0), some (.int seat), some (.int a2.2), some (.int (Int32.ofNat i2))]) (st1 := [.ref 0, .ref 6]) (s1 := (uset a2.1 54 seat.toNatClampNeg (Int32.ofNat i2))) rfl ?_
    refine UP.cR (M1 := m_X6_rowOther) (as := [.ref 0]) (rest := [.ref 6]) (T := F_rowOther (uset a2.1 54 seat.toNatClampNeg (Int32.ofNat i2)) ) (a := 58) rfl rfl (ux_rowOther (uset a2.1 54 seat.toNatClampNeg (Int32.ofNat i2)) ) (fun z3 e3 => ?_)
    refine UP.cI (M1 := m_X2_agreeWith) (as := [.ref 6, .ref 58]) (rest := []) (T := F_agreeWith z3 ) rfl rfl (ux_agreeWith z3 ) ?_
    refine mrg (m_cmp .eq (F_agreeWith z3) 0) a2.2 (a2.2 ||| (1 <<< ((Int32.ofNat i2) &&& 31))) (fun v6 : Int32 => UP m_X6_possibleSorts 30 [some (.ref 0), some (.int seat), some (.int v6), some (.int (Int32.ofNat i2))] [] z3 (Qb (F_possibleSorts s seat))) (fun cc kk => ?_) (fun cc kk => ?_) (fun v6 e6 => ?_)
    · skip
      refine UP.ifT rfl cc ?_
      exact kk
    · skip
      refine UP.ifF rfl cc ?_
      refine UP.stp 5 (i1 := 29) (L1 := [some (.ref 0), some (.int seat), some (.int a2.2), some (.int (Int32.ofNat i2))]) (st1 := [.int (a2.2 ||| (1 <<< ((Int32.ofNat i2) &&& 31)))]) (s1 := z3) rfl ?_
      refine nm (G := fun v5 => UP m_X6_possibleSorts 29 [some (.ref 0), some (.int seat), some (.int a2.2), some (.int (Int32.ofNat i2))] [.int v5] z3 (Qb (F_possibleSorts s seat))) (a2.2 ||| (1 <<< ((Int32.ofNat i2) &&& 31))) (fun v5 e5 => ?_)
      refine UP.stp 1 (i1 := 30) (L1 := [some (.ref 0), some (.int seat), some (.int v5), some (.int (Int32.ofNat i2))]) (st1 := []) (s1 := z3) rfl ?_
      subst e5
      exact kk
    refine UP.stp 2 (i1 := 9) (L1 := [some (.ref 0), some (.int seat), some (.int v6), some (.int ((Int32.ofNat i2) + 1))]) (st1 := []) (s1 := z3) rfl ?_
    subst e6 e3
    rw [ofn_s]
    exact kk
  refine UP.stp 2 (i1 := 11) (L1 := [some (.ref 0), some (.int seat), some (.int z2.2), some (.int (Int32.ofNat 3))]) (st1 := [.int 3, .int (Int32.ofNat 3)]) (s1 := z2.1) rfl ?_
  refine UP.icT rfl (ge_T (3 : Int32)) ?_
  refine UP.stp 1 (i1 := 33) (L1 := [some (.ref 0), some (.int seat), some (.int z2.2), some (.int (Int32.ofNat 3))]) (st1 := [.int z2.2]) (s1 := z2.1) rfl ?_
  exact UP.ret (r := some (.int z2.2)) rfl ⟨by subst e2 e1; rfl, by subst e2 e1; rfl⟩
def W_cwas : List (Nat × Nat × Option Nat) := [(16, 20, none), (22, 45, none), (46, 52, none), (15, 15, some 8), (59, 63, none), (65, 88, none), (89, 95, none), (58, 58, some 8), (54, 57, none), (53, 53, none), (96, 108, none), (0, 0, some 12), (0, 0, some 13)]
def F_cwas (s : SG) (seat : Int32) (what : Int32) : Int32 × SG := bif m_cmp .eq (F_cisRower s seat) 0 then (((-2), s)) else (bif m_cmp .ne (F_isBelow s what 2) 0 then (let w9 := bif m_cmp .ne what 0 then (F_possibleSorts s seat) else (F_possiblePowers s seat); w9) else (((-2), s)))
theorem fr_cwas (s : SG) (seat : Int32) (what : Int32)  : Fr W_cwas s (F_cwas s seat what).2 := by dsimp only [F_cwas]; exact (Fr.bifp (b := m_cmp .eq (F_cisRower s seat) 0) (x := ((-2), s)) (y := bif m_cmp .ne (F_isBelow s what 2) 0 then (let w9 := bif m_cmp .ne what 0 then (F_possibleSorts s seat) else (F_possiblePowers s seat); w9) else (((-2), s))) (fun x : Int32 × SG => x.2) (Fr.rf _ _) (Fr.bifp (b := m_cmp .ne (F_isBelow s what 2) 0) (x := let w9 := bif m_cmp .ne what 0 then (F_possibleSorts s seat) else (F_possiblePowers s seat); w9) (y := ((-2), s)) (fun x : Int32 × SG => x.2) (Fr.bifp (b := m_cmp .ne what 0) (x := (F_possibleSorts s seat)) (y := (F_possiblePowers s seat)) (fun x : Int32 × SG => x.2) (Fr.tr (s1 := s) (Fr.rf _ _) (Fr.wk (W2 := W_cwas) (fr_possibleSorts s seat) (by rfl))) (Fr.tr (s1 := s) (Fr.rf _ _) (Fr.wk (W2 := W_cwas) (fr_possiblePowers s seat) (by rfl)))) (Fr.rf _ _)))
theorem ux_cwas (s : SG) (seat : Int32) (what : Int32)  : UP m_X6_was 0 (m_ent 3 [.ref 0, .int seat, .int what]) [] s (Qb (F_cwas s seat what)) := by
  refine UP.stp 2 (i1 := 2) (L1 := [some (.ref 0), some (.int seat), some (.int what)]) (st1 := [.int seat, .ref 0]) (s1 := s) rfl ?_
  refine UP.cI (M1 := m_X6_isRower) (as := [.ref 0, .int seat]) (rest := []) (T := F_cisRower s seat) rfl rfl (ux_cisRower s seat) ?_
  refine UP.spl (m_cmp .eq (F_cisRower s seat) 0) (((-2), s)) (bif m_cmp .ne (F_isBelow s what 2) 0 then (let w9 := bif m_cmp .ne what 0 then (F_possibleSorts s seat) else (F_possiblePowers s seat); w9) else (((-2), s))) (by rfl) (fun cc => ?_) (fun cc => ?_)
  · skip
    refine UP.ifT rfl cc ?_
    refine UP.stp 1 (i1 := 9) (L1 := [some (.ref 0), some (.int seat), some (.int what)]) (st1 := [.int (-2)]) (s1 := s) rfl ?_
    exact UP.ret (r := some (.int (-2))) rfl ⟨by rfl, by rfl⟩
  · skip
    refine UP.ifF rfl cc ?_
    refine UP.stp 2 (i1 := 6) (L1 := [some (.ref 0), some (.int seat), some (.int what)]) (st1 := [.int 2, .int what]) (s1 := s) rfl ?_
    refine UP.cI (M1 := m_X6_isBelow) (as := [.int what, .int 2]) (rest := []) (T := F_isBelow s what 2) rfl rfl (ux_isBelow s what 2) ?_
    refine UP.spl (m_cmp .ne (F_isBelow s what 2) 0) (let w9 := bif m_cmp .ne what 0 then (F_possibleSorts s seat) else (F_possiblePowers s seat); w9) (((-2), s)) (by rfl) (fun cc => ?_) (fun cc => ?_)
    · skip
      refine UP.ifT rfl cc ?_
      refine UP.stp 1 (i1 := 11) (L1 := [some (.ref 0), some (.int seat), some (.int what)]) (st1 := [.int what]) (s1 := s) rfl ?_
      refine mrg (m_cmp .ne what 0) (F_possibleSorts s seat) (F_possiblePowers s seat) (fun w9 : Int32 × SG => UP m_X6_was 19 [some (.ref 0), some (.int seat), some (.int what)] [.int w9.1] w9.2 (Qb (let w9 := bif m_cmp .ne what 0 then (F_possibleSorts s seat) else (F_possiblePowers s seat); w9))) (fun cc kk => ?_) (fun cc kk => ?_) (fun w9 e9 => ?_)
      · skip
        refine UP.ifT rfl cc ?_
        refine UP.stp 2 (i1 := 18) (L1 := [some (.ref 0), some (.int seat), some (.int what)]) (st1 := [.int seat, .ref 0]) (s1 := s) rfl ?_
        refine UP.cB (M1 := m_X6_possibleSorts) (as := [.ref 0, .int seat]) (rest := []) (T := F_possibleSorts s seat) rfl rfl (ux_possibleSorts s seat) (fun z7 e7 => ?_)
        subst e7
        exact kk
      · skip
        refine UP.ifF rfl cc ?_
        refine UP.stp 2 (i1 := 14) (L1 := [some (.ref 0), some (.int seat), some (.int what)]) (st1 := [.int seat, .ref 0]) (s1 := s) rfl ?_
        refine UP.cB (M1 := m_X6_possiblePowers) (as := [.ref 0, .int seat]) (rest := []) (T := F_possiblePowers s seat) rfl rfl (ux_possiblePowers s seat) (fun z8 e8 => ?_)
        refine UP.stp 1 (i1 := 19) (L1 := [some (.ref 0), some (.int seat), some (.int what)]) (st1 := [.int z8.1]) (s1 := z8.2) rfl ?_
        subst e8
        exact kk
      exact UP.ret (r := some (.int w9.1)) rfl ⟨by subst e9; rfl, by subst e9; rfl⟩
    · skip
      refine UP.ifF rfl cc ?_
      refine UP.stp 1 (i1 := 9) (L1 := [some (.ref 0), some (.int seat), some (.int what)]) (st1 := [.int (-2)]) (s1 := s) rfl ?_
      exact UP.ret (r := some (.int (-2))) rfl ⟨by rfl, by rfl⟩
def W_mostAtOnePlace : List (Nat × Nat × Option Nat) := [(16, 20, none), (22, 45, none), (46, 52, none), (15, 15, some 8), (59, 63, none), (65, 88, none), (89, 95, none), (58, 58, some 8), (54, 57, none), (53, 53, none), (96, 108, none), (0, 0, some 12), (0, 0, some 13)]
def B_mostAtOnePlace_8 (powers : Int32) (minute : Int32) (i2 : Nat) (a2 : SG × Int32) : SG × Int32 := let w8 := bif m_cmp .eq (F_hasBit a2.1 powers (Int32.ofNat i2)) 0 then (a2.2, a2.1) else ((if a2.2 < ((uset a2.1 108 (a2.1 (98 + i2) minute.toNatClampNeg).toNatClampNeg ((a2.1 108 (a2.1 (98 + i2) minute.toNatClampNeg).toNatClampNeg) + 1)) 108 (a2.1 (98 + i2) minute.toNatClampNeg).toNatClampNeg) then ((uset a2.1 108 (a2.1 (98 + i2) minute.toNatClampNeg).toNatClampNeg ((a2.1 108 (a2.1 (98 + i2) minute.toNatClampNeg).toNatClampNeg) + 1)) 108 (a2.1 (98 + i2) minute.toNatClampNeg).toNatClampNeg) else a2.2), (uset a2.1 108 (a2.1 (98 + i2) minute.toNatClampNeg).toNatClampNeg ((a2.1 108 (a2.1 (98 + i2) minute.toNatClampNeg).toNatClampNeg) + 1))); (w8.2, w8.1)
theorem fr_B_mostAtOnePlace_8 (powers : Int32) (minute : Int32) (i2 : Nat) (a2 : SG × Int32)  (hi2 : i2 < 10) : Fr W_mostAtOnePlace a2.1 ((B_mostAtOnePlace_8 powers minute) i2 a2).1 := by dsimp only [B_mostAtOnePlace_8]; exact (Fr.bifp (b := m_cmp .eq (F_hasBit a2.1 powers (Int32.ofNat i2)) 0) (x := (a2.2, a2.1)) (y := ((if a2.2 < ((uset a2.1 108 (a2.1 (98 + i2) minute.toNatClampNeg).toNatClampNeg ((a2.1 108 (a2.1 (98 + i2) minute.toNatClampNeg).toNatClampNeg) + 1)) 108 (a2.1 (98 + i2) minute.toNatClampNeg).toNatClampNeg) then ((uset a2.1 108 (a2.1 (98 + i2) minute.toNatClampNeg).toNatClampNeg ((a2.1 108 (a2.1 (98 + i2) minute.toNatClampNeg).toNatClampNeg) + 1)) 108 (a2.1 (98 + i2) minute.toNatClampNeg).toNatClampNeg) else a2.2), (uset a2.1 108 (a2.1 (98 + i2) minute.toNatClampNeg).toNatClampNeg ((a2.1 108 (a2.1 (98 + i2) minute.toNatClampNeg).toNatClampNeg) + 1)))) (fun x : Int32 × SG => x.2) (Fr.rf _ _) (Fr.uset (s1 := a2.1) (a := 108) (j := (a2.1 (98 + i2) minute.toNatClampNeg).toNatClampNeg) (x := ((a2.1 108 (a2.1 (98 + i2) minute.toNatClampNeg).toNatClampNeg) + 1)) (by rfl) (Fr.rf _ _)))
def F_mostAtOnePlace (s : SG) (powers : Int32) (minute : Int32) : Int32 × SG := let z1 := fil s 108 21 0; let z2 := itr (B_mostAtOnePlace_8 powers minute) 1 (10 - 1) (z1, 0); (z2.2, z2.1)
theorem fr_mostAtOnePlace (s : SG) (powers : Int32) (minute : Int32)  : Fr W_mostAtOnePlace s (F_mostAtOnePlace s powers minute).2 := by dsimp only [F_mostAtOnePlace]; exact (frItrB (W := W_mostAtOnePlace) (m := (fun x : SG × Int32 => x.1)) 10 (fun i a h => Fr.wk (W2 := W_mostAtOnePlace) (fr_B_mostAtOnePlace_8 powers minute i a  h) (by rfl)) _ _ _ (by omega) (Fr.fil (by rfl) (Fr.rf _ _)))
theorem ux_mostAtOnePlace (s : SG) (powers : Int32) (minute : Int32)  : UP m_X6_mostAtOnePlace 0 (m_ent 6 [.ref 0, .int powers, .int minute]) [] s (Qb (F_mostAtOnePlace s powers minute)) := by
  refine UP.stp 3 (i1 := 3) (L1 := [some (.ref 0), some (.int powers), some (.int minute), none, none, none]) (st1 := [.int 0, .ref 108]) (s1 := s) rfl ?_
  refine UP.cV (M1 := m_J7_fill_53178) (as := [.ref 108, .int 0]) (rest := []) (T := fil s 108 21 0) rfl rfl (ux_fill s 108 0 21 rfl (by decide)) (fun z1 e1 => ?_)
  refine UP.stp 4 (i1 := 8) (L1 := [some (.ref 0), some (.int powers), some (.int minute), some (.int 0), some (.int 1), none]) (st1 := []) (s1 := z1) rfl ?_
  refine lp (fun (i2 : Nat) (a2 : SG × Int32) => ∀ (u2_5 : Option Value), UP m_X6_mostAtOnePlace 8 [some (.ref 0), some (.int powers), some (.int minute), some (.int a2.2), some (.int (Int32.ofNat i2)), u2_5] [] a2.1 (Qb (F_mostAtOnePlace s powers minute))) (fun (_ : Nat) (a2 : SG × Int32) => Fr W_mostAtOnePlace z1 a2.1) (B_mostAtOnePlace_8 powers minute) (10) (fun i2 a2 hi2 g2 => g2.tr (fr_B_mostAtOnePlace_8 powers minute i2 a2 hi2)) (fun i2 a2 hi2 g2 kk => ?_) (10 - 1) (1) (z1, 0) (by omega) (Fr.rf _ _) (fun z2 e2 g2 => ?_) none
  · skip
    intro u2_5
    refine UP.stp 2 (i1 := 10) (L1 := [some (.ref 0), some (.int powers), some (.int minute), some (.int a2.2), some (.int (Int32.ofNat i2)), u2_5]) (st1 := [.int 9, .int (Int32.ofNat i2)]) (s1 := a2.1) rfl ?_
    refine UP.icF rfl (gt_F (show i2 ≤ (9 : Int32).toNatClampNeg from Nat.le_of_lt_succ hi2) (by decide)) ?_
    refine UP.stp 2 (i1 := 13) (L1 := [some (.ref 0), some (.int powers), some (.int minute), some (.int a2.2), some (.int (Int32.ofNat i2)), u2_5]) (st1 := [.int (Int32.ofNat i2), .int powers]) (s1 := a2.1) rfl ?_
    refine UP.cI (M1 := m_X6_hasBit) (as := [.int powers, .int (Int32.ofNat i2)]) (rest := []) (T := F_hasBit a2.1 powers (Int32.ofNat i2)) rfl rfl (ux_hasBit a2.1 powers (Int32.ofNat i2)) ?_
    refine mrg (m_cmp .eq (F_hasBit a2.1 powers (Int32.ofNat i2)) 0) (a2.2, a2.1) ((if a2.2 < ((uset a2.1 108 (a2.1 (98 + i2) minute.toNatClampNeg).toNatClampNeg ((a2.1 108 (a2.1 (98 + i2) minute.toNatClampNeg).toNatClampNeg) + 1)) 108 (a2.1 (98 + i2) minute.toNatClampNeg).toNatClampNeg) then ((uset a2.1 108 (a2.1 (98 + i2) minute.toNatClampNeg).toNatClampNeg ((a2.1 108 (a2.1 (98 + i2) minute.toNatClampNeg).toNatClampNeg) + 1)) 108 (a2.1 (98 + i2) minute.toNatClampNeg).toNatClampNeg) else a2.2), (uset a2.1 108 (a2.1 (98 + i2) minute.toNatClampNeg).toNatClampNeg ((a2.1 108 (a2.1 (98 + i2) minute.toNatClampNeg).toNatClampNeg) + 1))) (fun w8 : Int32 × SG => ∀ (u7 : Option Value), UP m_X6_mostAtOnePlace 37 [some (.ref 0), some (.int powers), some (.int minute), some (.int w8.1), some (.int (Int32.ofNat i2)), u7] [] w8.2 (Qb (F_mostAtOnePlace s powers minute))) (fun cc kk => ?_) (fun cc kk => ?_) (fun w8 e8 u7 => ?_)
    · skip
      refine UP.ifT rfl cc ?_
      exact kk _
    · skip
      refine UP.ifF rfl cc ?_
      refine UP.stp 3 (i1 := 18) (L1 := [some (.ref 0), some (.int powers), some (.int minute), some (.int a2.2), some (.int (Int32.ofNat i2)), u2_5]) (st1 := [.int (Int32.ofNat i2), .ref 97]) (s1 := a2.1) rfl ?_
      refine UP.aald (e := i2) (r := 98 + i2) rfl rfl (by omega) rfl ?_
      refine UP.stp 2 (i1 := 21) (L1 := [some (.ref 0), some (.int powers), some (.int minute), some (.int a2.2), some (.int (Int32.ofNat i2)), u2_5]) (st1 := [.int (a2.1 (98 + i2) minute.toNatClampNeg)]) (s1 := a2.1) rfl ?_
      refine nm (G := fun v4 => UP m_X6_mostAtOnePlace 21 [some (.ref 0), some (.int powers), some (.int minute), some (.int a2.2), some (.int (Int32.ofNat i2)), u2_5] [.int v4] a2.1 (Qb (F_mostAtOnePlace s powers minute))) (a2.1 (98 + i2) minute.toNatClampNeg) (fun v4 e4 => ?_)
      refine UP.stp 8 (i1 := 29) (L1 := [some (.ref 0), some (.int powers), some (.int minute), some (.int a2.2), some (.int (Int32.ofNat i2)), some (.int v4)]) (st1 := [.int ((a2.1 108 v4.toNatClampNeg) + 1), .int v4, .ref 108]) (s1 := a2.1) rfl ?_
      refine nm (G := fun v5 => UP m_X6_mostAtOnePlace 29 [some (.ref 0), some (.int powers), some (.int minute), some (.int a2.2), some (.int (Int32.ofNat i2)), some (.int v4)] [.int v5, .int v4, .ref 108] a2.1 (Qb (F_mostAtOnePlace s powers minute))) ((a2.1 108 v4.toNatClampNeg) + 1) (fun v5 e5 => ?_)
      refine UP.stp 7 (i1 := 36) (L1 := [some (.ref 0), some (.int powers), some (.int minute), some (.int a2.2), some (.int (Int32.ofNat i2)), some (.int v4)]) (st1 := [.int (if a2.2 < ((uset a2.1 108 v4.toNatClampNeg v5) 108 v4.toNatClampNeg) then ((uset a2.1 108 v4.toNatClampNeg v5) 108 v4.toNatClampNeg) else a2.2)]) (s1 := (uset a2.1 108 v4.toNatClampNeg v5)) rfl ?_
      refine nm (G := fun v6 => UP m_X6_mostAtOnePlace 36 [some (.ref 0), some (.int powers), some (.int minute), some (.int a2.2), some (.int (Int32.ofNat i2)), some (.int v4)] [.int v6] (uset a2.1 108 v4.toNatClampNeg v5) (Qb (F_mostAtOnePlace s powers minute))) (if a2.2 < ((uset a2.1 108 v4.toNatClampNeg v5) 108 v4.toNatClampNeg) then ((uset a2.1 108 v4.toNatClampNeg v5) 108 v4.toNatClampNeg) else a2.2) (fun v6 e6 => ?_)
      refine UP.stp 1 (i1 := 37) (L1 := [some (.ref 0), some (.int powers), some (.int minute), some (.int v6), some (.int (Int32.ofNat i2)), some (.int v4)]) (st1 := []) (s1 := (uset a2.1 108 v4.toNatClampNeg v5)) rfl ?_
      subst e6 e5 e4
      exact kk _
    refine UP.stp 2 (i1 := 8) (L1 := [some (.ref 0), some (.int powers), some (.int minute), some (.int w8.1), some (.int ((Int32.ofNat i2) + 1)), u7]) (st1 := []) (s1 := w8.2) rfl ?_
    subst e8
    rw [ofn_s]
    exact kk _
  intro u2_5
  refine UP.stp 2 (i1 := 10) (L1 := [some (.ref 0), some (.int powers), some (.int minute), some (.int z2.2), some (.int (Int32.ofNat 10)), u2_5]) (st1 := [.int 9, .int (Int32.ofNat 10)]) (s1 := z2.1) rfl ?_
  refine UP.icT rfl (gt_T (v := 9) (by decide) (by decide)) ?_
  refine UP.stp 1 (i1 := 40) (L1 := [some (.ref 0), some (.int powers), some (.int minute), some (.int z2.2), some (.int (Int32.ofNat 10)), u2_5]) (st1 := [.int z2.2]) (s1 := z2.1) rfl ?_
  exact UP.ret (r := some (.int z2.2)) rfl ⟨by subst e2 e1; rfl, by subst e2 e1; rfl⟩
