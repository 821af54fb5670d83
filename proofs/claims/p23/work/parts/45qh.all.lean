section
def W_possiblePowers : List (Nat × Nat × Option Nat) := [(16, 20, none), (22, 45, none), (46, 52, none), (15, 15, some 8), (59, 63, none), (65, 88, none), (89, 95, none), (58, 58, some 8), (53, 57, none), (96, 108, none), (0, 0, some 12), (0, 0, some 13)]
def B_possiblePowers_9 (seat : Int32) (i2 : Nat) (a2 : SG × Int32) : SG × Int32 := let z3 := F_rowOther (uset a2.1 55 seat.toNatClampNeg (Int32.ofNat i2)) ; let w6 := bif m_cmp .eq (F_agreeWith z3) 0 then (a2.2, z3) else ((a2.2 ||| (1 <<< ((Int32.ofNat i2) &&& 31))), (mvs z3 60 0 (98 + i2) 0 24)); (w6.2, w6.1)
set_option maxRecDepth 20000 in
set_option maxHeartbeats 200000 in
theorem fr_B_possiblePowers_9 (seat : Int32) (i2 : Nat) (a2 : SG × Int32)  (hi2 : i2 < 10) : Fr W_possiblePowers a2.1 ((B_possiblePowers_9 seat) i2 a2).1 := by dsimp only [B_possiblePowers_9]; exact (let z3 : SG := F_rowOther (uset a2.1 55 seat.toNatClampNeg (Int32.ofNat i2)) ; (Fr.bifp (b := m_cmp .eq (F_agreeWith z3) 0) (x := (a2.2, z3)) (y := ((a2.2 ||| (1 <<< ((Int32.ofNat i2) &&& 31))), (mvs z3 60 0 (98 + i2) 0 24))) (fun x : Int32 × SG => x.2) (by (try dsimp only); exact (Fr.tr (s1 := (uset a2.1 55 seat.toNatClampNeg (Int32.ofNat i2))) (Fr.uset (s1 := a2.1) (a := 55) (j := seat.toNatClampNeg) (x := Int32.ofNat i2) (by rfl) (Fr.rf _ _)) (Fr.wk (W2 := W_possiblePowers) (fr_rowOther (uset a2.1 55 seat.toNatClampNeg (Int32.ofNat i2)) ) (by rfl)))) (by (try dsimp only); exact (frMvsR 96 108 (by omega) (by omega) rfl (Fr.tr (s1 := (uset a2.1 55 seat.toNatClampNeg (Int32.ofNat i2))) (Fr.uset (s1 := a2.1) (a := 55) (j := seat.toNatClampNeg) (x := Int32.ofNat i2) (by rfl) (Fr.rf _ _)) (Fr.wk (W2 := W_possiblePowers) (fr_rowOther (uset a2.1 55 seat.toNatClampNeg (Int32.ofNat i2)) ) (by rfl)))))))
def F_possiblePowers (s : SG) (seat : Int32) : Int32 × SG := let z1 := F_take s ; let z2 := itr (B_possiblePowers_9 seat) 1 (10 - 1) (z1, 0); (z2.2, z2.1)
set_option maxRecDepth 20000 in
set_option maxHeartbeats 200000 in
theorem fr_possiblePowers (s : SG) (seat : Int32)  : Fr W_possiblePowers s (F_possiblePowers s seat).2 := by dsimp only [F_possiblePowers]; exact (let z1 : SG := F_take s ; (frItrB (W := W_possiblePowers) (m := (fun x : SG × Int32 => x.1)) (f := (B_possiblePowers_9 seat)) 10 (fun ii aa hh => Fr.wk (W2 := W_possiblePowers) (fr_B_possiblePowers_9 seat ii aa  hh) (by rfl)) (10 - 1) 1 (z1, 0) (by omega) (Fr.tr (s1 := s) (Fr.rf _ _) (Fr.wk (W2 := W_possiblePowers) (fr_take s ) (by rfl)))))
set_option maxRecDepth 20000 in
set_option maxHeartbeats 200000 in
theorem ux_possiblePowers (s : SG) (seat : Int32)  : UP m_X6_possiblePowers 0 (m_ent 4 [.ref 0, .int seat]) [] s (Qb (F_possiblePowers s seat)) := by
  refine UP.stp 4 (i1 := 4) (L1 := [some (.ref 0), some (.int seat), none, none]) (st1 := [.ref 10, .ref 53]) (s1 := s) rfl ?_
  refine UP.cV (M1 := m_X0_take) (as := [.ref 53, .ref 10]) (rest := []) (T := F_take s ) rfl rfl (ux_take s ) (fun z1 e1 => ?_)
  refine UP.stp 4 (i1 := 9) (L1 := [some (.ref 0), some (.int seat), some (.int 0), some (.int 1)]) (st1 := []) (s1 := z1) rfl ?_
  refine lp (fun (i2 : Nat) (a2 : SG × Int32) => UP m_X6_possiblePowers 9 [some (.ref 0), some (.int seat), some (.int a2.2), some (.int (Int32.ofNat i2))] [] a2.1 (Qb (F_possiblePowers s seat))) (fun (_ : Nat) (a2 : SG × Int32) => Fr W_possiblePowers z1 a2.1) (B_possiblePowers_9 seat) (10) (fun i2 a2 hi2 g2 => g2.tr (fr_B_possiblePowers_9 seat i2 a2 hi2)) (fun i2 a2 hi2 g2 kk => ?_) (10 - 1) (1) (z1, 0) (by  omega) (Fr.rf _ _) (fun z2 e2 g2 => ?_)
  · skip
    refine UP.stp 2 (i1 := 11) (L1 := [some (.ref 0), some (.int seat), some (.int a2.2), some (.int (Int32.ofNat i2))]) (st1 := [.int 9, .int (Int32.ofNat i2)]) (s1 := a2.1) rfl ?_
    refine UP.icF rfl (gt_F (show i2 ≤ (9 : Int32).toNatClampNeg from Nat.le_of_lt_succ hi2) (by decide)) ?_
    refine UP.stp 9 (i1 := 21) (L1 := [some (.ref 0), some (.int seat), some (.int a2.2), some (.int (Int32.ofNat i2))]) (st1 := [.ref 0, .ref 6]) (s1 := (uset a2.1 55 seat.toNatClampNeg (Int32.ofNat i2))) rfl ?_
    refine UP.cR (M1 := m_X6_rowOther) (as := [.ref 0]) (rest := [.ref 6]) (T := F_rowOther (uset a2.1 55 seat.toNatClampNeg (Int32.ofNat i2)) ) (a := 58) rfl rfl (ux_rowOther (uset a2.1 55 seat.toNatClampNeg (Int32.ofNat i2)) ) (fun z3 e3 => ?_)
    refine UP.cI (M1 := m_X2_agreeWith) (as := [.ref 6, .ref 58]) (rest := []) (T := F_agreeWith z3 ) rfl rfl (ux_agreeWith z3 ) ?_
    refine mrg (m_cmp .eq (F_agreeWith z3) 0) (a2.2, z3) ((a2.2 ||| (1 <<< ((Int32.ofNat i2) &&& 31))), (mvs z3 60 0 (98 + i2) 0 24)) (fun w6 : Int32 × SG => UP m_X6_possiblePowers 41 [some (.ref 0), some (.int seat), some (.int w6.1), some (.int (Int32.ofNat i2))] [] w6.2 (Qb (F_possiblePowers s seat))) (fun cc kk => ?_) (fun cc kk => ?_) (fun w6 e6 => ?_)
    · skip
      refine UP.ifT rfl cc ?_
      exact kk
    · skip
      refine UP.ifF rfl cc ?_
      refine UP.stp 5 (i1 := 29) (L1 := [some (.ref 0), some (.int seat), some (.int a2.2), some (.int (Int32.ofNat i2))]) (st1 := [.int (a2.2 ||| (1 <<< ((Int32.ofNat i2) &&& 31)))]) (s1 := z3) rfl ?_
      refine nm (G := fun v5 => UP m_X6_possiblePowers 29 [some (.ref 0), some (.int seat), some (.int a2.2), some (.int (Int32.ofNat i2))] [.int v5] z3 (Qb (F_possiblePowers s seat))) (a2.2 ||| (1 <<< ((Int32.ofNat i2) &&& 31))) (fun v5 e5 => ?_)
      refine UP.stp 8 (i1 := 37) (L1 := [some (.ref 0), some (.int seat), some (.int v5), some (.int (Int32.ofNat i2))]) (st1 := [.int (Int32.ofNat i2), .ref 97, .int 0, .ref 60]) (s1 := z3) rfl ?_
      refine UP.aald (e := i2) (r := 98 + i2) rfl rfl (by omega) rfl ?_
      refine UP.stp 3 (i1 := 41) (L1 := [some (.ref 0), some (.int seat), some (.int v5), some (.int (Int32.ofNat i2))]) (st1 := []) (s1 := (mvs z3 60 0 (98 + i2) 0 24)) rfl ?_
      subst e5
      exact kk
    refine UP.stp 2 (i1 := 9) (L1 := [some (.ref 0), some (.int seat), some (.int w6.1), some (.int ((Int32.ofNat i2) + 1))]) (st1 := []) (s1 := w6.2) rfl ?_
    subst e6 e3
    rw [ofn_s]
    try dsimp only [B_possiblePowers_9] at kk
    exact kk
  refine UP.stp 2 (i1 := 11) (L1 := [some (.ref 0), some (.int seat), some (.int z2.2), some (.int (Int32.ofNat 10))]) (st1 := [.int 9, .int (Int32.ofNat 10)]) (s1 := z2.1) rfl ?_
  refine UP.icT rfl (gt_T (v := 9) (by decide) (by decide)) ?_
  refine UP.stp 1 (i1 := 44) (L1 := [some (.ref 0), some (.int seat), some (.int z2.2), some (.int (Int32.ofNat 10))]) (st1 := [.int z2.2]) (s1 := z2.1) rfl ?_
  exact UP.ret (r := some (.int z2.2)) rfl ⟨by subst e2 e1; first | (dsimp only [F_possiblePowers]; done) | (dsimp only; done) | rfl, by subst e2 e1; first | (dsimp only [F_possiblePowers]; done) | (dsimp only; done) | rfl⟩
def W_possibleSorts : List (Nat × Nat × Option Nat) := [(16, 20, none), (22, 45, none), (46, 52, none), (15, 15, some 8), (59, 63, none), (65, 88, none), (89, 95, none), (58, 58, some 8), (53, 57, none), (96, 108, none), (0, 0, some 12), (0, 0, some 13)]
def B_possibleSorts_9 (seat : Int32) (i2 : Nat) (a2 : SG × Int32) : SG × Int32 := let z3 := F_rowOther (uset a2.1 54 seat.toNatClampNeg (Int32.ofNat i2)) ; let v6 := bif m_cmp .eq (F_agreeWith z3) 0 then a2.2 else (a2.2 ||| (1 <<< ((Int32.ofNat i2) &&& 31))); (z3, v6)
set_option maxRecDepth 20000 in
set_option maxHeartbeats 200000 in
theorem fr_B_possibleSorts_9 (seat : Int32) (i2 : Nat) (a2 : SG × Int32)  (hi2 : i2 < 3) : Fr W_possibleSorts a2.1 ((B_possibleSorts_9 seat) i2 a2).1 := by dsimp only [B_possibleSorts_9]; exact (Fr.tr (s1 := (uset a2.1 54 seat.toNatClampNeg (Int32.ofNat i2))) (Fr.uset (s1 := a2.1) (a := 54) (j := seat.toNatClampNeg) (x := Int32.ofNat i2) (by rfl) (Fr.rf _ _)) (Fr.wk (W2 := W_possibleSorts) (fr_rowOther (uset a2.1 54 seat.toNatClampNeg (Int32.ofNat i2)) ) (by rfl)))
def F_possibleSorts (s : SG) (seat : Int32) : Int32 × SG := let z1 := F_take s ; let z2 := itr (B_possibleSorts_9 seat) 0 3 (z1, 0); (z2.2, z2.1)
set_option maxRecDepth 20000 in
set_option maxHeartbeats 200000 in
theorem fr_possibleSorts (s : SG) (seat : Int32)  : Fr W_possibleSorts s (F_possibleSorts s seat).2 := by dsimp only [F_possibleSorts]; exact (let z1 : SG := F_take s ; (frItrB (W := W_possibleSorts) (m := (fun x : SG × Int32 => x.1)) (f := (B_possibleSorts_9 seat)) 3 (fun ii aa hh => Fr.wk (W2 := W_possibleSorts) (fr_B_possibleSorts_9 seat ii aa  hh) (by rfl)) 3 0 (z1, 0) (by omega) (Fr.tr (s1 := s) (Fr.rf _ _) (Fr.wk (W2 := W_possibleSorts) (fr_take s ) (by rfl)))))
set_option maxRecDepth 20000 in
set_option maxHeartbeats 200000 in
theorem ux_possibleSorts (s : SG) (seat : Int32)  : UP m_X6_possibleSorts 0 (m_ent 4 [.ref 0, .int seat]) [] s (Qb (F_possibleSorts s seat)) := by
  refine UP.stp 4 (i1 := 4) (L1 := [some (.ref 0), some (.int seat), none, none]) (st1 := [.ref 10, .ref 53]) (s1 := s) rfl ?_
  refine UP.cV (M1 := m_X0_take) (as := [.ref 53, .ref 10]) (rest := []) (T := F_take s ) rfl rfl (ux_take s ) (fun z1 e1 => ?_)
  refine UP.stp 4 (i1 := 9) (L1 := [some (.ref 0), some (.int seat), some (.int 0), some (.int 0)]) (st1 := []) (s1 := z1) rfl ?_
  refine lp (fun (i2 : Nat) (a2 : SG × Int32) => UP m_X6_possibleSorts 9 [some (.ref 0), some (.int seat), some (.int a2.2), some (.int (Int32.ofNat i2))] [] a2.1 (Qb (F_possibleSorts s seat))) (fun (_ : Nat) (a2 : SG × Int32) => Fr W_possibleSorts z1 a2.1) (B_possibleSorts_9 seat) (3) (fun i2 a2 hi2 g2 => g2.tr (fr_B_possibleSorts_9 seat i2 a2 hi2)) (fun i2 a2 hi2 g2 kk => ?_) 3 (0) (z1, 0) (by  omega) (Fr.rf _ _) (fun z2 e2 g2 => ?_)
  · skip
    refine UP.stp 2 (i1 := 11) (L1 := [some (.ref 0), some (.int seat), some (.int a2.2), some (.int (Int32.ofNat i2))]) (st1 := [.int 3, .int (Int32.ofNat i2)]) (s1 := a2.1) rfl ?_
    refine UP.icF rfl (ge_F (show i2 < (3 : Int32).toNatClampNeg from hi2)) ?_
    refine UP.stp 9 (i1 := 21) (L1 := [some (.ref 0), some (.int seat), some (.int a2.2), some (.int (Int32.ofNat i2))]) (st1 := [.ref 0, .ref 6]) (s1 := (uset a2.1 54 seat.toNatClampNeg (Int32.ofNat i2))) rfl ?_
    refine UP.cR (M1 := m_X6_rowOther) (as := [.ref 0]) (rest := [.ref 6]) (T := F_rowOther (uset a2.1 54 seat.toNatClampNeg (Int32.ofNat i2)) ) (a := 58) rfl rfl (ux_rowOther (uset a2.1 54 seat.toNatClampNeg (Int32.ofNat i2)) ) (fun z3 e3 => ?_)
    refine UP.cI (M1 := m_X2_agreeWith) (as := [.ref 6, .ref 58]) (rest := []) (T := F_agreeWith z3 ) rfl rfl (ux_agreeWith z3 ) ?_
    refine mrg (m_cmp .eq (F_agreeWith z3) 0) a2.2 (a2.2 ||| (1 <<< ((Int32.ofNat i2) &&& 31))) (fun v6 : Int32 => UP m_X6_possibleSorts 30 [some (.ref 0), some (.int seat), some (.int v6), some (.int (Int32.ofNat i2))] [] z3 (Qb (F_possibleSorts s seat))) (fun cc kk => ?_) (fun cc kk => ?_) (fun v6 e6 => ?_)
    · skip
      refine UP.ifT rfl cc ?_
      exact kk
    · skip
      refine UP.ifF rfl cc ?_
      refine UP.stp 5 (i1 := 29) (L1 := [some (.ref 0), some (.int seat), some (.int a2.2), some (.int (Int32.ofNat i2))]) (st1 := [.int (a2.2 ||| (1 <<< ((Int32.ofNat i2) &&& 31)))]) (s1 := z3) rfl ?_
      refine nm (G := fun v5 => UP m_X6_possibleSorts 29 [some (.ref 0), some (.int seat), some (.int a2.2), some (.int (Int32.ofNat i2))] [.int v5] z3 (Qb (F_possibleSorts s seat))) (a2.2 ||| (1 <<< ((Int32.ofNat i2) &&& 31))) (fun v5 e5 => ?_)
      refine UP.stp 1 (i1 := 30) (L1 := [some (.ref 0), some (.int seat), some (.int v5), some (.int (Int32.ofNat i2))]) (st1 := []) (s1 := z3) rfl ?_
      subst e5
      exact kk
    refine UP.stp 2 (i1 := 9) (L1 := [some (.ref 0), some (.int seat), some (.int v6), some (.int ((Int32.ofNat i2) + 1))]) (st1 := []) (s1 := z3) rfl ?_
    subst e6 e3
    rw [ofn_s]
    try dsimp only [B_possibleSorts_9] at kk
    exact kk
  refine UP.stp 2 (i1 := 11) (L1 := [some (.ref 0), some (.int seat), some (.int z2.2), some (.int (Int32.ofNat 3))]) (st1 := [.int 3, .int (Int32.ofNat 3)]) (s1 := z2.1) rfl ?_
  refine UP.icT rfl (ge_T (3 : Int32)) ?_
  refine UP.stp 1 (i1 := 33) (L1 := [some (.ref 0), some (.int seat), some (.int z2.2), some (.int (Int32.ofNat 3))]) (st1 := [.int z2.2]) (s1 := z2.1) rfl ?_
  exact UP.ret (r := some (.int z2.2)) rfl ⟨by subst e2 e1; first | (dsimp only [F_possibleSorts]; done) | (dsimp only; done) | rfl, by subst e2 e1; first | (dsimp only [F_possibleSorts]; done) | (dsimp only; done) | rfl⟩
end
section
def W_cwas : List (Nat × Nat × Option Nat) := [(16, 20, none), (22, 45, none), (46, 52, none), (15, 15, some 8), (59, 63, none), (65, 88, none), (89, 95, none), (58, 58, some 8), (53, 57, none), (96, 108, none), (0, 0, some 12), (0, 0, some 13)]
def F_cwas (s : SG) (seat : Int32) (what : Int32) : Int32 × SG := bif m_cmp .eq (F_cisRower s seat) 0 then (((-2), s)) else (bif m_cmp .ne (F_isBelow s what 2) 0 then (let w9 := bif m_cmp .ne what 0 then (F_possibleSorts s seat) else (F_possiblePowers s seat); w9) else (((-2), s)))
set_option maxRecDepth 20000 in
set_option maxHeartbeats 200000 in
theorem fr_cwas (s : SG) (seat : Int32) (what : Int32)  : Fr W_cwas s (F_cwas s seat what).2 := by dsimp only [F_cwas]; exact (Fr.bifp (b := m_cmp .eq (F_cisRower s seat) 0) (x := ((-2), s)) (y := bif m_cmp .ne (F_isBelow s what 2) 0 then (let w9 := bif m_cmp .ne what 0 then (F_possibleSorts s seat) else (F_possiblePowers s seat); w9) else (((-2), s))) (fun x : Int32 × SG => x.2) (by (try dsimp only); exact (Fr.rf _ _)) (by (try dsimp only); exact (Fr.bifp (b := m_cmp .ne (F_isBelow s what 2) 0) (x := let w9 := bif m_cmp .ne what 0 then (F_possibleSorts s seat) else (F_possiblePowers s seat); w9) (y := ((-2), s)) (fun x : Int32 × SG => x.2) (by (try dsimp only); exact (Fr.bifp (b := m_cmp .ne what 0) (x := (F_possibleSorts s seat)) (y := (F_possiblePowers s seat)) (fun x : Int32 × SG => x.2) (by (try dsimp only); exact (Fr.tr (s1 := s) (Fr.rf _ _) (Fr.wk (W2 := W_cwas) (fr_possibleSorts s seat) (by rfl)))) (by (try dsimp only); exact (Fr.tr (s1 := s) (Fr.rf _ _) (Fr.wk (W2 := W_cwas) (fr_possiblePowers s seat) (by rfl)))))) (by (try dsimp only); exact (Fr.rf _ _)))))
set_option maxRecDepth 20000 in
set_option maxHeartbeats 200000 in
theorem ux_cwas (s : SG) (seat : Int32) (what : Int32)  : UP m_X6_was 0 (m_ent 3 [.ref 0, .int seat, .int what]) [] s (Qb (F_cwas s seat what)) := by
  refine UP.stp 2 (i1 := 2) (L1 := [some (.ref 0), some (.int seat), some (.int what)]) (st1 := [.int seat, .ref 0]) (s1 := s) rfl ?_
  refine UP.cI (M1 := m_X6_isRower) (as := [.ref 0, .int seat]) (rest := []) (T := F_cisRower s seat) rfl rfl (ux_cisRower s seat) ?_
  refine UP.spl (m_cmp .eq (F_cisRower s seat) 0) (((-2), s)) (bif m_cmp .ne (F_isBelow s what 2) 0 then (let w9 := bif m_cmp .ne what 0 then (F_possibleSorts s seat) else (F_possiblePowers s seat); w9) else (((-2), s))) (by first | (dsimp only [F_cwas]; done) | (dsimp only; done) | rfl) (fun cc => ?_) (fun cc => ?_)
  · skip
    refine UP.ifT rfl cc ?_
    refine UP.stp 1 (i1 := 9) (L1 := [some (.ref 0), some (.int seat), some (.int what)]) (st1 := [.int (-2)]) (s1 := s) rfl ?_
    exact UP.ret (r := some (.int (-2))) rfl ⟨by first | (dsimp only [F_cwas]; done) | (dsimp only; done) | rfl, by first | (dsimp only [F_cwas]; done) | (dsimp only; done) | rfl⟩
  · skip
    refine UP.ifF rfl cc ?_
    refine UP.stp 2 (i1 := 6) (L1 := [some (.ref 0), some (.int seat), some (.int what)]) (st1 := [.int 2, .int what]) (s1 := s) rfl ?_
    refine UP.cI (M1 := m_X6_isBelow) (as := [.int what, .int 2]) (rest := []) (T := F_isBelow s what 2) rfl rfl (ux_isBelow s what 2) ?_
    refine UP.spl (m_cmp .ne (F_isBelow s what 2) 0) (let w9 := bif m_cmp .ne what 0 then (F_possibleSorts s seat) else (F_possiblePowers s seat); w9) (((-2), s)) (by first | (dsimp only [F_cwas]; done) | (dsimp only; done) | rfl) (fun cc => ?_) (fun cc => ?_)
    · skip
      refine UP.ifT rfl cc ?_
      refine UP.stp 1 (i1 := 11) (L1 := [some (.ref 0), some (.int seat), some (.int what)]) (st1 := [.int what]) (s1 := s) rfl ?_
      refine mrg (m_cmp .ne what 0) (F_possibleSorts s seat) (F_possiblePowers s seat) (fun w9 : Int32 × SG => UP m_X6_was 19 [some (.ref 0), some (.int seat), some (.int what)] [.int w9.1] w9.2 (Qb (let w9 := bif m_cmp .ne what 0 then (F_possibleSorts s seat) else (F_possiblePowers s seat); w9))) (fun cc kk => ?_) (fun cc kk => ?_) (fun w9 e9 => ?_)
      · skip
        refine UP.ifT rfl cc ?_
        refine UP.stp 2 (i1 := 18) (L1 := [some (.ref 0), some (.int seat), some (.int what)]) (st1 := [.int seat, .ref 0]) (s1 := s) rfl ?_
        refine UP.cB (M1 := m_X6_possibleSorts) (as := [.ref 0, .int seat]) (rest := []) (T := F_possibleSorts s seat) rfl rfl (ux_possibleSorts s seat) (fun z7 e7 => ?_)
        subst e7
        exact kk
      · skip
        refine UP.ifF rfl cc ?_
        refine UP.stp 2 (i1 := 14) (L1 := [some (.ref 0), some (.int seat), some (.int what)]) (st1 := [.int seat, .ref 0]) (s1 := s) rfl ?_
        refine UP.cB (M1 := m_X6_possiblePowers) (as := [.ref 0, .int seat]) (rest := []) (T := F_possiblePowers s seat) rfl rfl (ux_possiblePowers s seat) (fun z8 e8 => ?_)
        refine UP.stp 1 (i1 := 19) (L1 := [some (.ref 0), some (.int seat), some (.int what)]) (st1 := [.int z8.1]) (s1 := z8.2) rfl ?_
        subst e8
        exact kk
      exact UP.ret (r := some (.int w9.1)) rfl ⟨by subst e9; first | (dsimp only [F_cwas]; done) | (dsimp only; done) | rfl, by subst e9; first | (dsimp only [F_cwas]; done) | (dsimp only; done) | rfl⟩
    · skip
      refine UP.ifF rfl cc ?_
      refine UP.stp 1 (i1 := 9) (L1 := [some (.ref 0), some (.int seat), some (.int what)]) (st1 := [.int (-2)]) (s1 := s) rfl ?_
      exact UP.ret (r := some (.int (-2))) rfl ⟨by first | (dsimp only [F_cwas]; done) | (dsimp only; done) | rfl, by first | (dsimp only [F_cwas]; done) | (dsimp only; done) | rfl⟩
end
section
def W_mostAtOnePlace : List (Nat × Nat × Option Nat) := [(16, 20, none), (22, 45, none), (46, 52, none), (15, 15, some 8), (59, 63, none), (65, 88, none), (89, 95, none), (58, 58, some 8), (53, 57, none), (96, 108, none), (0, 0, some 12), (0, 0, some 13)]
def B_mostAtOnePlace_8 (powers : Int32) (minute : Int32) (i2 : Nat) (a2 : SG × Int32) : SG × Int32 := let w8 := bif m_cmp .eq (F_hasBit a2.1 powers (Int32.ofNat i2)) 0 then (a2.2, a2.1) else ((if a2.2 < ((uset a2.1 108 (a2.1 (98 + i2) minute.toNatClampNeg).toNatClampNeg ((a2.1 108 (a2.1 (98 + i2) minute.toNatClampNeg).toNatClampNeg) + 1)) 108 (a2.1 (98 + i2) minute.toNatClampNeg).toNatClampNeg) then ((uset a2.1 108 (a2.1 (98 + i2) minute.toNatClampNeg).toNatClampNeg ((a2.1 108 (a2.1 (98 + i2) minute.toNatClampNeg).toNatClampNeg) + 1)) 108 (a2.1 (98 + i2) minute.toNatClampNeg).toNatClampNeg) else a2.2), (uset a2.1 108 (a2.1 (98 + i2) minute.toNatClampNeg).toNatClampNeg ((a2.1 108 (a2.1 (98 + i2) minute.toNatClampNeg).toNatClampNeg) + 1))); (w8.2, w8.1)
set_option maxRecDepth 20000 in
set_option maxHeartbeats 200000 in
theorem fr_B_mostAtOnePlace_8 (powers : Int32) (minute : Int32) (i2 : Nat) (a2 : SG × Int32)  (hi2 : i2 < 10) : Fr W_mostAtOnePlace a2.1 ((B_mostAtOnePlace_8 powers minute) i2 a2).1 := by dsimp only [B_mostAtOnePlace_8]; exact (Fr.bifp (b := m_cmp .eq (F_hasBit a2.1 powers (Int32.ofNat i2)) 0) (x := (a2.2, a2.1)) (y := ((if a2.2 < ((uset a2.1 108 (a2.1 (98 + i2) minute.toNatClampNeg).toNatClampNeg ((a2.1 108 (a2.1 (98 + i2) minute.toNatClampNeg).toNatClampNeg) + 1)) 108 (a2.1 (98 + i2) minute.toNatClampNeg).toNatClampNeg) then ((uset a2.1 108 (a2.1 (98 + i2) minute.toNatClampNeg).toNatClampNeg ((a2.1 108 (a2.1 (98 + i2) minute.toNatClampNeg).toNatClampNeg) + 1)) 108 (a2.1 (98 + i2) minute.toNatClampNeg).toNatClampNeg) else a2.2), (uset a2.1 108 (a2.1 (98 + i2) minute.toNatClampNeg).toNatClampNeg ((a2.1 108 (a2.1 (98 + i2) minute.toNatClampNeg).toNatClampNeg) + 1)))) (fun x : Int32 × SG => x.2) (by (try dsimp only); exact (Fr.rf _ _)) (by (try dsimp only); exact (Fr.uset (s1 := a2.1) (a := 108) (j := (a2.1 (98 + i2) minute.toNatClampNeg).toNatClampNeg) (x := ((a2.1 108 (a2.1 (98 + i2) minute.toNatClampNeg).toNatClampNeg) + 1)) (by rfl) (Fr.rf _ _))))
def F_mostAtOnePlace (s : SG) (powers : Int32) (minute : Int32) : Int32 × SG := let z1 := fil s 108 21 0; let z2 := itr (B_mostAtOnePlace_8 powers minute) 1 (10 - 1) (z1, 0); (z2.2, z2.1)
set_option maxRecDepth 20000 in
set_option maxHeartbeats 200000 in
theorem fr_mostAtOnePlace (s : SG) (powers : Int32) (minute : Int32)  : Fr W_mostAtOnePlace s (F_mostAtOnePlace s powers minute).2 := by dsimp only [F_mostAtOnePlace]; exact (let z1 : SG := fil s 108 21 0; (frItrB (W := W_mostAtOnePlace) (m := (fun x : SG × Int32 => x.1)) (f := (B_mostAtOnePlace_8 powers minute)) 10 (fun ii aa hh => Fr.wk (W2 := W_mostAtOnePlace) (fr_B_mostAtOnePlace_8 powers minute ii aa  hh) (by rfl)) (10 - 1) 1 (z1, 0) (by omega) (Fr.fil (by rfl) (Fr.rf _ _))))
set_option maxRecDepth 20000 in
set_option maxHeartbeats 200000 in
theorem ux_mostAtOnePlace (s : SG) (powers : Int32) (minute : Int32)  : UP m_X6_mostAtOnePlace 0 (m_ent 6 [.ref 0, .int powers, .int minute]) [] s (Qb (F_mostAtOnePlace s powers minute)) := by
  refine UP.stp 3 (i1 := 3) (L1 := [some (.ref 0), some (.int powers), some (.int minute), none, none, none]) (st1 := [.int 0, .ref 108]) (s1 := s) rfl ?_
  refine UP.cV (M1 := m_J7_fill_53178) (as := [.ref 108, .int 0]) (rest := []) (T := fil s 108 21 0) rfl rfl (ux_fill s 108 0 21 rfl (by decide)) (fun z1 e1 => ?_)
  refine UP.stp 4 (i1 := 8) (L1 := [some (.ref 0), some (.int powers), some (.int minute), some (.int 0), some (.int 1), none]) (st1 := []) (s1 := z1) rfl ?_
  refine lp (fun (i2 : Nat) (a2 : SG × Int32) => ∀ (u2_5 : Option Value), UP m_X6_mostAtOnePlace 8 [some (.ref 0), some (.int powers), some (.int minute), some (.int a2.2), some (.int (Int32.ofNat i2)), u2_5] [] a2.1 (Qb (F_mostAtOnePlace s powers minute))) (fun (_ : Nat) (a2 : SG × Int32) => Fr W_mostAtOnePlace z1 a2.1) (B_mostAtOnePlace_8 powers minute) (10) (fun i2 a2 hi2 g2 => g2.tr (fr_B_mostAtOnePlace_8 powers minute i2 a2 hi2)) (fun i2 a2 hi2 g2 kk => ?_) (10 - 1) (1) (z1, 0) (by  omega) (Fr.rf _ _) (fun z2 e2 g2 => ?_) none
  · skip
    intro u2_5
    refine UP.stp 2 (i1 := 10) (L1 := [some (.ref 0), some (.int powers), some (.int minute), some (.int a2.2), some (.int (Int32.ofNat i2)), u2_5]) (st1 := [.int 9, .int (Int32.ofNat i2)]) (s1 := a2.1) rfl ?_
    refine UP.icF rfl (gt_F (show i2 ≤ (9 : Int32).toNatClampNeg from Nat.le_of_lt_succ hi2) (by decide)) ?_
    refine UP.stp 2 (i1 := 13) (L1 := [some (.ref 0), some (.int powers), some (.int minute), some (.int a2.2), some (.int (Int32.ofNat i2)), u2_5]) (st1 := [.int (Int32.ofNat i2), .int powers]) (s1 := a2.1) rfl ?_
    refine UP.cI (M1 := m_X6_hasBit) (as := [.int powers, .int (Int32.ofNat i2)]) (rest := []) (T := F_hasBit a2.1 powers (Int32.ofNat i2)) rfl rfl (ux_hasBit a2.1 powers (Int32.ofNat i2)) ?_
    refine mrg (m_cmp .eq (F_hasBit a2.1 powers (Int32.ofNat i2)) 0) (a2.2, a2.1) ((if a2.2 < ((uset a2.1 108 (a2.1 (98 + i2) minute.toNatClampNeg).toNatClampNeg ((a2.1 108 (a2.1 (98 + i2) minute.toNatClampNeg).toNatClampNeg) + 1)) 108 (a2.1 (98 + i2) minute.toNatClampNeg).toNatClampNeg) then ((uset a2.1 108 (a2.1 (98 + i2) minute.toNatClampNeg).toNatClampNeg ((a2.1 108 (a2.1 (98 + i2) minute.toNatClampNeg).toNatClampNeg) + 1)) 108 (a2.1 (98 + i2) minute.toNatClampNeg).toNatClampNeg) else a2.2), (uset a2.1 108 (a2.1 (98 + i2) minute.toNatClampNeg).toNatClampNeg ((a2.1 108 (a2.1 (98 + i2) minute.toNatClampNeg).toNatClampNeg) + 1))) (fun w8 : Int32 × SG => ∀ (u7 : Option Value), UP m_X6_mostAtOnePlace 37 [some (.ref 0), some (.int powers), some (.int minute), some (.int w8.1), some (.int (Int32.ofNat i2)), u7] [] w8.2 (Qb (F_mostAtOnePlace s powers minute))) (fun cc kk => ?_) (fun cc kk => ?_) (fun w8 e8 u7 => ?_)
    · skip
      refine UP.ifT rfl cc ?_
      exact kk _
    · skip
      refine UP.ifF rfl cc ?_
      refine UP.stp 3 (i1 := 18) (L1 := [some (.ref 0), some (.int powers), some (.int minute), some (.int a2.2), some (.int (Int32.ofNat i2)), u2_5]) (st1 := [.int (Int32.ofNat i2), .ref 97]) (s1 := a2.1) rfl ?_
      refine UP.aald (e := i2) (r := 98 + i2) rfl rfl (by omega) rfl ?_
      refine UP.stp 2 (i1 := 21) (L1 := [some (.ref 0), some (.int powers), some (.int minute), some (.int a2.2), some (.int (Int32.ofNat i2)), u2_5]) (st1 := [.int (a2.1 (98 + i2) minute.toNatClampNeg)]) (s1 := a2.1) rfl ?_
      refine nm (G := fun v4 => UP m_X6_mostAtOnePlace 21 [some (.ref 0), some (.int powers), some (.int minute), some (.int a2.2), some (.int (Int32.ofNat i2)), u2_5] [.int v4] a2.1 (Qb (F_mostAtOnePlace s powers minute))) (a2.1 (98 + i2) minute.toNatClampNeg) (fun v4 e4 => ?_)
      refine UP.stp 8 (i1 := 29) (L1 := [some (.ref 0), some (.int powers), some (.int minute), some (.int a2.2), some (.int (Int32.ofNat i2)), some (.int v4)]) (st1 := [.int ((a2.1 108 v4.toNatClampNeg) + 1), .int v4, .ref 108]) (s1 := a2.1) rfl ?_
      refine nm (G := fun v5 => UP m_X6_mostAtOnePlace 29 [some (.ref 0), some (.int powers), some (.int minute), some (.int a2.2), some (.int (Int32.ofNat i2)), some (.int v4)] [.int v5, .int v4, .ref 108] a2.1 (Qb (F_mostAtOnePlace s powers minute))) ((a2.1 108 v4.toNatClampNeg) + 1) (fun v5 e5 => ?_)
      refine UP.stp 7 (i1 := 36) (L1 := [some (.ref 0), some (.int powers), some (.int minute), some (.int a2.2), some (.int (Int32.ofNat i2)), some (.int v4)]) (st1 := [.int (if a2.2 < ((uset a2.1 108 v4.toNatClampNeg v5) 108 v4.toNatClampNeg) then ((uset a2.1 108 v4.toNatClampNeg v5) 108 v4.toNatClampNeg) else a2.2)]) (s1 := (uset a2.1 108 v4.toNatClampNeg v5)) rfl ?_
      refine nm (G := fun v6 => UP m_X6_mostAtOnePlace 36 [some (.ref 0), some (.int powers), some (.int minute), some (.int a2.2), some (.int (Int32.ofNat i2)), some (.int v4)] [.int v6] (uset a2.1 108 v4.toNatClampNeg v5) (Qb (F_mostAtOnePlace s powers minute))) (if a2.2 < ((uset a2.1 108 v4.toNatClampNeg v5) 108 v4.toNatClampNeg) then ((uset a2.1 108 v4.toNatClampNeg v5) 108 v4.toNatClampNeg) else a2.2) (fun v6 e6 => ?_)
      refine UP.stp 1 (i1 := 37) (L1 := [some (.ref 0), some (.int powers), some (.int minute), some (.int v6), some (.int (Int32.ofNat i2)), some (.int v4)]) (st1 := []) (s1 := (uset a2.1 108 v4.toNatClampNeg v5)) rfl ?_
      subst e6 e5 e4
      exact kk _
    refine UP.stp 2 (i1 := 8) (L1 := [some (.ref 0), some (.int powers), some (.int minute), some (.int w8.1), some (.int ((Int32.ofNat i2) + 1)), u7]) (st1 := []) (s1 := w8.2) rfl ?_
    subst e8
    rw [ofn_s]
    try dsimp only [B_mostAtOnePlace_8] at kk
    exact kk _
  intro u2_5
  refine UP.stp 2 (i1 := 10) (L1 := [some (.ref 0), some (.int powers), some (.int minute), some (.int z2.2), some (.int (Int32.ofNat 10)), u2_5]) (st1 := [.int 9, .int (Int32.ofNat 10)]) (s1 := z2.1) rfl ?_
  refine UP.icT rfl (gt_T (v := 9) (by decide) (by decide)) ?_
  refine UP.stp 1 (i1 := 40) (L1 := [some (.ref 0), some (.int powers), some (.int minute), some (.int z2.2), some (.int (Int32.ofNat 10)), u2_5]) (st1 := [.int z2.2]) (s1 := z2.1) rfl ?_
  exact UP.ret (r := some (.int z2.2)) rfl ⟨by subst e2 e1; first | (dsimp only [F_mostAtOnePlace]; done) | (dsimp only; done) | rfl, by subst e2 e1; first | (dsimp only [F_mostAtOnePlace]; done) | (dsimp only; done) | rfl⟩
end
section
def W_cask : List (Nat × Nat × Option Nat) := [(16, 20, none), (22, 45, none), (46, 52, none), (15, 15, some 8), (59, 63, none), (65, 88, none), (89, 95, none), (58, 58, some 8), (53, 57, none), (96, 108, none), (0, 0, some 12), (0, 0, some 13)]
def B_cask_16 (z4 : Int32 × SG) (i5 : Nat) (a5 : SG × Int32 × Int32) : SG × Int32 × Int32 := let z6 := F_mostAtOnePlace a5.1 z4.1 (Int32.ofNat i5); let w7 := bif m_cmp .ge z6.1 a5.2.2 then (a5.2.1, a5.2.2) else (Int32.ofNat i5, z6.1); (z6.2, w7.1, w7.2)
set_option maxRecDepth 20000 in
set_option maxHeartbeats 200000 in
theorem fr_B_cask_16 (z4 : Int32 × SG) (i5 : Nat) (a5 : SG × Int32 × Int32)  (hi5 : i5 < 24) : Fr W_cask a5.1 ((B_cask_16 z4) i5 a5).1 := by dsimp only [B_cask_16]; exact (Fr.tr (s1 := a5.1) (Fr.rf _ _) (Fr.wk (W2 := W_cask) (fr_mostAtOnePlace a5.1 z4.1 (Int32.ofNat i5)) (by rfl)))
def F_cask (s : SG) (seat : Int32) : Int32 × SG := bif m_cmp .ne (F_cisRower s seat) 0 then (let z4 := F_possiblePowers s seat; let z5 := itr (B_cask_16 z4) 0 24 (z4.2, 0, 10); (z5.2.1, z5.1)) else (((-2), s))
set_option maxRecDepth 20000 in
set_option maxHeartbeats 200000 in
theorem fr_cask (s : SG) (seat : Int32)  : Fr W_cask s (F_cask s seat).2 := by dsimp only [F_cask]; exact (Fr.bifp (b := m_cmp .ne (F_cisRower s seat) 0) (x := let z4 := F_possiblePowers s seat; let z5 := itr (B_cask_16 z4) 0 24 (z4.2, 0, 10); (z5.2.1, z5.1)) (y := ((-2), s)) (fun x : Int32 × SG => x.2) (by (try dsimp only); exact (let z4 : Int32 × SG := F_possiblePowers s seat; (frItrB (W := W_cask) (m := (fun x : SG × Int32 × Int32 => x.1)) (f := (B_cask_16 z4)) 24 (fun ii aa hh => Fr.wk (W2 := W_cask) (fr_B_cask_16 z4 ii aa  hh) (by rfl)) 24 0 (z4.2, 0, 10) (by omega) (by (try dsimp only); exact (Fr.tr (s1 := s) (Fr.rf _ _) (Fr.wk (W2 := W_cask) (fr_possiblePowers s seat) (by rfl))))))) (by (try dsimp only); exact (Fr.rf _ _)))
set_option maxRecDepth 20000 in
set_option maxHeartbeats 200000 in
theorem ux_cask (s : SG) (seat : Int32)  : UP m_X6_ask 0 (m_ent 7 [.ref 0, .int seat]) [] s (Qb (F_cask s seat)) := by
  refine UP.stp 2 (i1 := 2) (L1 := [some (.ref 0), some (.int seat), none, none, none, none, none]) (st1 := [.int seat, .ref 0]) (s1 := s) rfl ?_
  refine UP.cI (M1 := m_X6_isRower) (as := [.ref 0, .int seat]) (rest := []) (T := F_cisRower s seat) rfl rfl (ux_cisRower s seat) ?_
  refine UP.spl (m_cmp .ne (F_cisRower s seat) 0) (let z4 := F_possiblePowers s seat; let z5 := itr (B_cask_16 z4) 0 24 (z4.2, 0, 10); (z5.2.1, z5.1)) (((-2), s)) (by first | (dsimp only [F_cask]; done) | (dsimp only; done) | rfl) (fun cc => ?_) (fun cc => ?_)
  · skip
    refine UP.ifT rfl cc ?_
    refine UP.stp 2 (i1 := 8) (L1 := [some (.ref 0), some (.int seat), none, none, none, none, none]) (st1 := [.int seat, .ref 0]) (s1 := s) rfl ?_
    refine UP.cB (M1 := m_X6_possiblePowers) (as := [.ref 0, .int seat]) (rest := []) (T := F_possiblePowers s seat) rfl rfl (ux_possiblePowers s seat) (fun z4 e4 => ?_)
    refine UP.stp 7 (i1 := 16) (L1 := [some (.ref 0), some (.int seat), some (.int z4.1), some (.int 0), some (.int 10), some (.int 0), none]) (st1 := []) (s1 := z4.2) rfl ?_
    refine lp (fun (i5 : Nat) (a5 : SG × Int32 × Int32) => ∀ (u5_1 : Option Value) (u5_6 : Option Value), UP m_X6_ask 16 [some (.ref 0), u5_1, some (.int z4.1), some (.int a5.2.1), some (.int a5.2.2), some (.int (Int32.ofNat i5)), u5_6] [] a5.1 (Qb (let z4 := F_possiblePowers s seat; let z5 := itr (B_cask_16 z4) 0 24 (z4.2, 0, 10); (z5.2.1, z5.1)))) (fun (_ : Nat) (a5 : SG × Int32 × Int32) => Fr W_cask z4.2 a5.1) (B_cask_16 z4) (24) (fun i5 a5 hi5 g5 => g5.tr (fr_B_cask_16 z4 i5 a5 hi5)) (fun i5 a5 hi5 g5 kk => ?_) 24 (0) (z4.2, 0, 10) (by  omega) (Fr.rf _ _) (fun z5 e5 g5 => ?_) (some (.int seat)) none
    · skip
      intro u5_1 u5_6
      refine UP.stp 2 (i1 := 18) (L1 := [some (.ref 0), u5_1, some (.int z4.1), some (.int a5.2.1), some (.int a5.2.2), some (.int (Int32.ofNat i5)), u5_6]) (st1 := [.int 24, .int (Int32.ofNat i5)]) (s1 := a5.1) rfl ?_
      refine UP.icF rfl (ge_F (show i5 < (24 : Int32).toNatClampNeg from hi5)) ?_
      refine UP.stp 3 (i1 := 22) (L1 := [some (.ref 0), u5_1, some (.int z4.1), some (.int a5.2.1), some (.int a5.2.2), some (.int (Int32.ofNat i5)), u5_6]) (st1 := [.int (Int32.ofNat i5), .int z4.1, .ref 0]) (s1 := a5.1) rfl ?_
      refine UP.cB (M1 := m_X6_mostAtOnePlace) (as := [.ref 0, .int z4.1, .int (Int32.ofNat i5)]) (rest := []) (T := F_mostAtOnePlace a5.1 z4.1 (Int32.ofNat i5)) rfl rfl (ux_mostAtOnePlace a5.1 z4.1 (Int32.ofNat i5)) (fun z6 e6 => ?_)
      refine UP.stp 3 (i1 := 26) (L1 := [some (.ref 0), u5_1, some (.int z4.1), some (.int a5.2.1), some (.int a5.2.2), some (.int (Int32.ofNat i5)), some (.int z6.1)]) (st1 := [.int a5.2.2, .int z6.1]) (s1 := z6.2) rfl ?_
      refine mrg (m_cmp .ge z6.1 a5.2.2) (a5.2.1, a5.2.2) (Int32.ofNat i5, z6.1) (fun w7 : Int32 × Int32 => UP m_X6_ask 31 [some (.ref 0), u5_1, some (.int z4.1), some (.int w7.1), some (.int w7.2), some (.int (Int32.ofNat i5)), some (.int z6.1)] [] z6.2 (Qb (let z4 := F_possiblePowers s seat; let z5 := itr (B_cask_16 z4) 0 24 (z4.2, 0, 10); (z5.2.1, z5.1)))) (fun cc kk => ?_) (fun cc kk => ?_) (fun w7 e7 => ?_)
      · skip
        refine UP.icT rfl cc ?_
        exact kk
      · skip
        refine UP.icF rfl cc ?_
        refine UP.stp 4 (i1 := 31) (L1 := [some (.ref 0), u5_1, some (.int z4.1), some (.int (Int32.ofNat i5)), some (.int z6.1), some (.int (Int32.ofNat i5)), some (.int z6.1)]) (st1 := []) (s1 := z6.2) rfl ?_
        exact kk
      refine UP.stp 2 (i1 := 16) (L1 := [some (.ref 0), u5_1, some (.int z4.1), some (.int w7.1), some (.int w7.2), some (.int ((Int32.ofNat i5) + 1)), some (.int z6.1)]) (st1 := []) (s1 := z6.2) rfl ?_
      subst e7 e6
      rw [ofn_s]
      try dsimp only [B_cask_16] at kk
      exact kk _ _
    intro u5_1 u5_6
    refine UP.stp 2 (i1 := 18) (L1 := [some (.ref 0), u5_1, some (.int z4.1), some (.int z5.2.1), some (.int z5.2.2), some (.int (Int32.ofNat 24)), u5_6]) (st1 := [.int 24, .int (Int32.ofNat 24)]) (s1 := z5.1) rfl ?_
    refine UP.icT rfl (ge_T (24 : Int32)) ?_
    refine UP.stp 1 (i1 := 34) (L1 := [some (.ref 0), u5_1, some (.int z4.1), some (.int z5.2.1), some (.int z5.2.2), some (.int (Int32.ofNat 24)), u5_6]) (st1 := [.int z5.2.1]) (s1 := z5.1) rfl ?_
    exact UP.ret (r := some (.int z5.2.1)) rfl ⟨by subst e5 e4; first | (dsimp only [F_cask]; done) | (dsimp only; done) | rfl, by subst e5 e4; first | (dsimp only [F_cask]; done) | (dsimp only; done) | rfl⟩
  · skip
    refine UP.ifF rfl cc ?_
    refine UP.stp 1 (i1 := 5) (L1 := [some (.ref 0), some (.int seat), none, none, none, none, none]) (st1 := [.int (-2)]) (s1 := s) rfl ?_
    exact UP.ret (r := some (.int (-2))) rfl ⟨by first | (dsimp only [F_cask]; done) | (dsimp only; done) | rfl, by first | (dsimp only [F_cask]; done) | (dsimp only; done) | rfl⟩
end
section
def W_firstAgroundWith : List (Nat × Nat × Option Nat) := [(16, 20, none), (22, 45, none), (46, 52, none), (15, 15, some 8), (59, 63, none), (65, 88, none), (89, 95, none), (58, 58, some 8), (53, 57, none), (96, 108, none), (0, 0, some 12), (0, 0, some 13)]
def F_firstAgroundWith (s : SG) (mask : Int32) : Int32 × SG := let v2 := bif m_cmp .eq (s 0 13) 0 then s else (uset (fil s 96 256 (-9)) 0 13 0); bif m_cmp .ne (F_isBelow v2 mask 256) 0 then (let v9 := bif m_cmp .ne (v2 96 mask.toNatClampNeg) (-9) then v2 else (uset (F_row_c v2 mask) 96 mask.toNatClampNeg (F_firstAground_b (F_row_c v2 mask))); (v9 96 mask.toNatClampNeg, v9)) else (((-1), v2))
set_option maxRecDepth 20000 in
set_option maxHeartbeats 200000 in
theorem fr_firstAgroundWith (s : SG) (mask : Int32)  : Fr W_firstAgroundWith s (F_firstAgroundWith s mask).2 := by dsimp only [F_firstAgroundWith]; exact (let v2 : SG := bif m_cmp .eq (s 0 13) 0 then s else (uset (fil s 96 256 (-9)) 0 13 0); (Fr.bifp (b := m_cmp .ne (F_isBelow v2 mask 256) 0) (x := let v9 := bif m_cmp .ne (v2 96 mask.toNatClampNeg) (-9) then v2 else (uset (F_row_c v2 mask) 96 mask.toNatClampNeg (F_firstAground_b (F_row_c v2 mask))); (v9 96 mask.toNatClampNeg, v9)) (y := ((-1), v2)) (fun x : Int32 × SG => x.2) (by (try dsimp only); exact (Fr.bif (b := m_cmp .ne (v2 96 mask.toNatClampNeg) (-9)) (s1 := v2) (s2 := (uset (F_row_c v2 mask) 96 mask.toNatClampNeg (F_firstAground_b (F_row_c v2 mask)))) (Fr.bif (b := m_cmp .eq (s 0 13) 0) (s1 := s) (s2 := (uset (fil s 96 256 (-9)) 0 13 0)) (Fr.rf _ _) (Fr.uset (s1 := (fil s 96 256 (-9))) (a := 0) (j := 13) (x := 0) (by rfl) (Fr.fil (by rfl) (Fr.rf _ _)))) (Fr.uset (s1 := (F_row_c v2 mask)) (a := 96) (j := mask.toNatClampNeg) (x := (F_firstAground_b (F_row_c v2 mask))) (by rfl) (Fr.tr (s1 := v2) (Fr.bif (b := m_cmp .eq (s 0 13) 0) (s1 := s) (s2 := (uset (fil s 96 256 (-9)) 0 13 0)) (Fr.rf _ _) (Fr.uset (s1 := (fil s 96 256 (-9))) (a := 0) (j := 13) (x := 0) (by rfl) (Fr.fil (by rfl) (Fr.rf _ _)))) (Fr.wk (W2 := W_firstAgroundWith) (fr_row_c v2 mask) (by rfl)))))) (by (try dsimp only); exact (Fr.bif (b := m_cmp .eq (s 0 13) 0) (s1 := s) (s2 := (uset (fil s 96 256 (-9)) 0 13 0)) (Fr.rf _ _) (Fr.uset (s1 := (fil s 96 256 (-9))) (a := 0) (j := 13) (x := 0) (by rfl) (Fr.fil (by rfl) (Fr.rf _ _)))))))
set_option maxRecDepth 20000 in
set_option maxHeartbeats 200000 in
theorem ux_firstAgroundWith (s : SG) (mask : Int32)  : UP m_X6_firstAgroundWith 0 (m_ent 2 [.ref 0, .int mask]) [] s (Qb (F_firstAgroundWith s mask)) := by
  refine UP.stp 2 (i1 := 2) (L1 := [some (.ref 0), some (.int mask)]) (st1 := [.int (s 0 13)]) (s1 := s) rfl ?_
  refine mrg (m_cmp .eq (s 0 13) 0) s (uset (fil s 96 256 (-9)) 0 13 0) (fun v2 : SG => UP m_X6_firstAgroundWith 10 [some (.ref 0), some (.int mask)] [] v2 (Qb (F_firstAgroundWith s mask))) (fun cc kk => ?_) (fun cc kk => ?_) (fun v2 e2 => ?_)
  · skip
    refine UP.ifT rfl cc ?_
    exact kk
  · skip
    refine UP.ifF rfl cc ?_
    refine UP.stp 3 (i1 := 6) (L1 := [some (.ref 0), some (.int mask)]) (st1 := [.int (-9), .ref 96]) (s1 := s) rfl ?_
    refine UP.cV (M1 := m_J7_fill_53178) (as := [.ref 96, .int (-9)]) (rest := []) (T := fil s 96 256 (-9)) rfl rfl (ux_fill s 96 (-9) 256 rfl (by decide)) (fun z1 e1 => ?_)
    refine UP.stp 3 (i1 := 10) (L1 := [some (.ref 0), some (.int mask)]) (st1 := []) (s1 := (uset z1 0 13 0)) rfl ?_
    subst e1
    exact kk
  refine UP.stp 4 (i1 := 14) (L1 := [some (.ref 0), some (.int mask)]) (st1 := [.int 256, .int mask]) (s1 := v2) rfl ?_
  refine UP.cI (M1 := m_X6_isBelow) (as := [.int mask, .int 256]) (rest := []) (T := F_isBelow v2 mask 256) rfl rfl (ux_isBelow v2 mask 256) ?_
  refine UP.spl (m_cmp .ne (F_isBelow v2 mask 256) 0) (let v9 := bif m_cmp .ne (v2 96 mask.toNatClampNeg) (-9) then v2 else (uset (F_row_c v2 mask) 96 mask.toNatClampNeg (F_firstAground_b (F_row_c v2 mask))); (v9 96 mask.toNatClampNeg, v9)) (((-1), v2)) (by subst e2; first | (dsimp only [F_firstAgroundWith]; done) | (dsimp only; done) | rfl) (fun cc => ?_) (fun cc => ?_)
  · skip
    refine UP.ifT rfl cc ?_
    refine UP.stp 5 (i1 := 23) (L1 := [some (.ref 0), some (.int mask)]) (st1 := [.int (-9), .int (v2 96 mask.toNatClampNeg)]) (s1 := v2) rfl ?_
    refine mrg (m_cmp .ne (v2 96 mask.toNatClampNeg) (-9)) v2 (uset (F_row_c v2 mask) 96 mask.toNatClampNeg (F_firstAground_b (F_row_c v2 mask))) (fun v9 : SG => UP m_X6_firstAgroundWith 39 [some (.ref 0), some (.int mask)] [] v9 (Qb (let v9 := bif m_cmp .ne (v2 96 mask.toNatClampNeg) (-9) then v2 else (uset (F_row_c v2 mask) 96 mask.toNatClampNeg (F_firstAground_b (F_row_c v2 mask))); (v9 96 mask.toNatClampNeg, v9)))) (fun cc kk => ?_) (fun cc kk => ?_) (fun v9 e9 => ?_)
    · skip
      refine UP.icT rfl cc ?_
      exact kk
    · skip
      refine UP.icF rfl cc ?_
      refine UP.stp 7 (i1 := 31) (L1 := [some (.ref 0), some (.int mask)]) (st1 := [.int mask, .ref 2, .ref 10, .ref 58]) (s1 := v2) rfl ?_
      refine UP.cV (M1 := m_X5_row) (as := [.ref 58, .ref 10, .ref 2, .int mask]) (rest := []) (T := F_row_c v2 mask) rfl rfl (ux_row_c v2 mask) (fun z6 e6 => ?_)
      refine UP.stp 5 (i1 := 37) (L1 := [some (.ref 0), some (.int mask)]) (st1 := [.ref 58, .int mask, .ref 96]) (s1 := z6) rfl ?_
      refine UP.cI (M1 := m_X5_firstAground) (as := [.ref 58]) (rest := [.int mask, .ref 96]) (T := F_firstAground_b z6 ) rfl rfl (ux_firstAground_b z6) ?_
      refine nm (G := fun v8 => UP m_X6_firstAgroundWith 38 [some (.ref 0), some (.int mask)] [.int v8, .int mask, .ref 96] z6 (Qb (let v9 := bif m_cmp .ne (v2 96 mask.toNatClampNeg) (-9) then v2 else (uset (F_row_c v2 mask) 96 mask.toNatClampNeg (F_firstAground_b (F_row_c v2 mask))); (v9 96 mask.toNatClampNeg, v9)))) (F_firstAground_b z6) (fun v8 e8 => ?_)
      refine UP.stp 1 (i1 := 39) (L1 := [some (.ref 0), some (.int mask)]) (st1 := []) (s1 := (uset z6 96 mask.toNatClampNeg v8)) rfl ?_
      subst e8 e6
      exact kk
    refine UP.stp 4 (i1 := 43) (L1 := [some (.ref 0), some (.int mask)]) (st1 := [.int (v9 96 mask.toNatClampNeg)]) (s1 := v9) rfl ?_
    exact UP.ret (r := some (.int (v9 96 mask.toNatClampNeg))) rfl ⟨by subst e9 e2; first | (dsimp only [F_firstAgroundWith]; done) | (dsimp only; done) | rfl, by subst e9 e2; first | (dsimp only [F_firstAgroundWith]; done) | (dsimp only; done) | rfl⟩
  · skip
    refine UP.ifF rfl cc ?_
    refine UP.stp 1 (i1 := 17) (L1 := [some (.ref 0), some (.int mask)]) (st1 := [.int (-1)]) (s1 := v2) rfl ?_
    exact UP.ret (r := some (.int (-1))) rfl ⟨by subst e2; first | (dsimp only [F_firstAgroundWith]; done) | (dsimp only; done) | rfl, by subst e2; first | (dsimp only [F_firstAgroundWith]; done) | (dsimp only; done) | rfl⟩
def W_ithBit : List (Nat × Nat × Option Nat) := []
def B_ithBit_4 (bits : Int32) (i : Int32) (s : SG) (i1 : Nat) (a1 : Int32) : (Int32) ⊕ (Int32) := bif m_cmp .eq (F_hasBit s bits (Int32.ofNat i1)) 0 then (.inl a1) else (bif m_cmp .ne a1 i then (.inl (a1 + 1)) else (.inr (Int32.ofNat i1)))
def F_ithBit (s : SG) (bits : Int32) (i : Int32) : Int32 := Sum.elim (fun z1 : Int32 => (-1)) (fun x : Nat × (Int32) => x.2) (itx (B_ithBit_4 bits i s) 0 8 (0 : Int32))
set_option maxRecDepth 20000 in
set_option maxHeartbeats 200000 in
theorem ux_ithBit (s : SG) (bits : Int32) (i : Int32)  : UP m_X6_ithBit 0 (m_ent 4 [.int bits, .int i]) [] s (Qi s (F_ithBit s bits i)) := by
  refine UP.stp 4 (i1 := 4) (L1 := [some (.int bits), some (.int i), some (.int 0), some (.int 0)]) (st1 := []) (s1 := s) rfl ?_
  refine lpx (fun (i1 : Nat) (a1 : Int32) => UP m_X6_ithBit 4 [some (.int bits), some (.int i), some (.int a1), some (.int (Int32.ofNat i1))] [] s (Qi s (F_ithBit s bits i))) (fun (_ : Nat) (b1 : Int32) => (F_ithBit s bits i) = b1) (fun (_ : Nat) (a1 : Int32) => Fr W_ithBit s s) (B_ithBit_4 bits i s) (8) (fun i1 a1 x1 hi1 g1 e => g1) (fun i1 a1 hi1 g1 kk => ?_) 8 (0) (0 : Int32) (by omega) (Fr.rf _ _) (fun z1 e1 g1 => ?_) (fun i1 a1 b1 e1 hi1 g1 f1 => by have q : (F_ithBit s bits i) = Sum.elim (fun z1 : Int32 => (-1)) (fun x : Nat × (Int32) => x.2) (itx (B_ithBit_4 bits i s) 0 8 (0 : Int32)) := (by first | (dsimp only [F_ithBit]; done) | (dsimp only; done) | rfl); rw [q, e1]; first | (dsimp only [Sum.elim_inr]; done) | rfl)
  · skip
    refine UP.stp 2 (i1 := 6) (L1 := [some (.int bits), some (.int i), some (.int a1), some (.int (Int32.ofNat i1))]) (st1 := [.int 8, .int (Int32.ofNat i1)]) (s1 := s) rfl ?_
    refine UP.icF rfl (ge_F (show i1 < (8 : Int32).toNatClampNeg from hi1)) ?_
    refine UP.stp 2 (i1 := 9) (L1 := [some (.int bits), some (.int i), some (.int a1), some (.int (Int32.ofNat i1))]) (st1 := [.int (Int32.ofNat i1), .int bits]) (s1 := s) rfl ?_
    refine UP.cI (M1 := m_X6_hasBit) (as := [.int bits, .int (Int32.ofNat i1)]) (rest := []) (T := F_hasBit s bits (Int32.ofNat i1)) rfl rfl (ux_hasBit s bits (Int32.ofNat i1)) ?_
    refine brk (K := (Kx (fun (i1 : Nat) (a1 : Int32) => UP m_X6_ithBit 4 [some (.int bits), some (.int i), some (.int a1), some (.int (Int32.ofNat i1))] [] s (Qi s (F_ithBit s bits i))) (fun (_ : Nat) (b1 : Int32) => (F_ithBit s bits i) = b1) i1)) (m_cmp .eq (F_hasBit s bits (Int32.ofNat i1)) 0) (.inl a1) (bif m_cmp .ne a1 i then (.inl (a1 + 1)) else (.inr (Int32.ofNat i1))) (by (try dsimp only [B_ithBit_4] at kk ⊢); exact kk) (fun cc kk => ?_) (fun cc kk => ?_)
    · skip
      refine UP.ifT rfl cc ?_
      refine UP.stp 2 (i1 := 4) (L1 := [some (.int bits), some (.int i), some (.int a1), some (.int ((Int32.ofNat i1) + 1))]) (st1 := []) (s1 := s) rfl ?_
      rw [ofn_s]
      exact kk
    · skip
      refine UP.ifF rfl cc ?_
      refine UP.stp 2 (i1 := 13) (L1 := [some (.int bits), some (.int i), some (.int a1), some (.int (Int32.ofNat i1))]) (st1 := [.int i, .int a1]) (s1 := s) rfl ?_
      refine brk (K := (Kx (fun (i1 : Nat) (a1 : Int32) => UP m_X6_ithBit 4 [some (.int bits), some (.int i), some (.int a1), some (.int (Int32.ofNat i1))] [] s (Qi s (F_ithBit s bits i))) (fun (_ : Nat) (b1 : Int32) => (F_ithBit s bits i) = b1) i1)) (m_cmp .ne a1 i) (.inl (a1 + 1)) (.inr (Int32.ofNat i1)) (by (try dsimp only [B_ithBit_4] at kk ⊢); exact kk) (fun cc kk => ?_) (fun cc kk => ?_)
      · skip
        refine UP.icT rfl cc ?_
        refine UP.stp 3 (i1 := 4) (L1 := [some (.int bits), some (.int i), some (.int (a1 + 1)), some (.int ((Int32.ofNat i1) + 1))]) (st1 := []) (s1 := s) rfl ?_
        rw [ofn_s]
        exact kk
      · skip
        refine UP.icF rfl cc ?_
        refine UP.stp 1 (i1 := 15) (L1 := [some (.int bits), some (.int i), some (.int a1), some (.int (Int32.ofNat i1))]) (st1 := [.int (Int32.ofNat i1)]) (s1 := s) rfl ?_
        have kk : (F_ithBit s bits i) = Int32.ofNat i1 := by exact kk
        exact UP.ret (r := some (.int (Int32.ofNat i1))) rfl ⟨by rw [kk], rfl⟩
  · skip
    refine UP.eqT ((-1)) (by have q : (F_ithBit s bits i) = Sum.elim (fun z1 : Int32 => (-1)) (fun x : Nat × (Int32) => x.2) (itx (B_ithBit_4 bits i s) 0 8 (0 : Int32)) := (by first | (dsimp only [F_ithBit]; done) | (dsimp only; done) | rfl); rw [q, e1]; first | (dsimp only [Sum.elim_inl]; done) | rfl) ?_
    refine UP.stp 2 (i1 := 6) (L1 := [some (.int bits), some (.int i), some (.int z1), some (.int (Int32.ofNat 8))]) (st1 := [.int 8, .int (Int32.ofNat 8)]) (s1 := s) rfl ?_
    refine UP.icT rfl (ge_T (8 : Int32)) ?_
    refine UP.stp 1 (i1 := 20) (L1 := [some (.int bits), some (.int i), some (.int z1), some (.int (Int32.ofNat 8))]) (st1 := [.int (-1)]) (s1 := s) rfl ?_
    exact UP.ret (r := some (.int (-1))) rfl ⟨by first | (dsimp only [F_ithBit]; done) | (dsimp only; done) | rfl, by first | (dsimp only [F_ithBit]; done) | (dsimp only; done) | rfl⟩
end
section
def W_isAgroundBy : List (Nat × Nat × Option Nat) := [(16, 20, none), (22, 45, none), (46, 52, none), (15, 15, some 8), (59, 63, none), (65, 88, none), (89, 95, none), (58, 58, some 8), (53, 57, none), (96, 108, none), (0, 0, some 12), (0, 0, some 13)]
def F_isAgroundBy (s : SG) (minute : Int32) (mask : Int32) : Int32 × SG := let z1 := F_firstAgroundWith s mask; let v3 := bif m_cmp .eq z1.1 (-1) then (0 : Int32) else (bif m_cmp .gt z1.1 minute then (0 : Int32) else (1 : Int32)); (v3, z1.2)
set_option maxRecDepth 20000 in
set_option maxHeartbeats 200000 in
theorem fr_isAgroundBy (s : SG) (minute : Int32) (mask : Int32)  : Fr W_isAgroundBy s (F_isAgroundBy s minute mask).2 := by dsimp only [F_isAgroundBy]; exact (Fr.tr (s1 := s) (Fr.rf _ _) (Fr.wk (W2 := W_isAgroundBy) (fr_firstAgroundWith s mask) (by rfl)))
set_option maxRecDepth 20000 in
set_option maxHeartbeats 200000 in
theorem ux_isAgroundBy (s : SG) (minute : Int32) (mask : Int32)  : UP m_X6_isAgroundBy 0 (m_ent 4 [.ref 0, .int minute, .int mask]) [] s (Qb (F_isAgroundBy s minute mask)) := by
  refine UP.stp 2 (i1 := 2) (L1 := [some (.ref 0), some (.int minute), some (.int mask), none]) (st1 := [.int mask, .ref 0]) (s1 := s) rfl ?_
  refine UP.cB (M1 := m_X6_firstAgroundWith) (as := [.ref 0, .int mask]) (rest := []) (T := F_firstAgroundWith s mask) rfl rfl (ux_firstAgroundWith s mask) (fun z1 e1 => ?_)
  refine UP.stp 3 (i1 := 6) (L1 := [some (.ref 0), some (.int minute), some (.int mask), some (.int z1.1)]) (st1 := [.int (-1), .int z1.1]) (s1 := z1.2) rfl ?_
  refine mrg (m_cmp .eq z1.1 (-1)) (0 : Int32) (bif m_cmp .gt z1.1 minute then (0 : Int32) else (1 : Int32)) (fun v3 : Int32 => UP m_X6_isAgroundBy 13 [some (.ref 0), some (.int minute), some (.int mask), some (.int z1.1)] [.int v3] z1.2 (Qb (F_isAgroundBy s minute mask))) (fun cc kk => ?_) (fun cc kk => ?_) (fun v3 e3 => ?_)
  · skip
    refine UP.icT rfl cc ?_
    refine UP.stp 1 (i1 := 13) (L1 := [some (.ref 0), some (.int minute), some (.int mask), some (.int z1.1)]) (st1 := [.int 0]) (s1 := z1.2) rfl ?_
    exact kk
  · skip
    refine UP.icF rfl cc ?_
    refine UP.stp 2 (i1 := 9) (L1 := [some (.ref 0), some (.int minute), some (.int mask), some (.int z1.1)]) (st1 := [.int minute, .int z1.1]) (s1 := z1.2) rfl ?_
    refine mrg (m_cmp .gt z1.1 minute) (0 : Int32) (1 : Int32) (fun v2 : Int32 => UP m_X6_isAgroundBy 13 [some (.ref 0), some (.int minute), some (.int mask), some (.int z1.1)] [.int v2] z1.2 (Qb (F_isAgroundBy s minute mask))) (fun cc kk => ?_) (fun cc kk => ?_) (fun v2 e2 => ?_)
    · skip
      refine UP.icT rfl cc ?_
      refine UP.stp 1 (i1 := 13) (L1 := [some (.ref 0), some (.int minute), some (.int mask), some (.int z1.1)]) (st1 := [.int 0]) (s1 := z1.2) rfl ?_
      exact kk
    · skip
      refine UP.icF rfl cc ?_
      refine UP.stp 2 (i1 := 13) (L1 := [some (.ref 0), some (.int minute), some (.int mask), some (.int z1.1)]) (st1 := [.int 1]) (s1 := z1.2) rfl ?_
      exact kk
    subst e2
    exact kk
  exact UP.ret (r := some (.int v3)) rfl ⟨by subst e3 e1; first | (dsimp only [F_isAgroundBy]; done) | (dsimp only; done) | rfl, by subst e3 e1; first | (dsimp only [F_isAgroundBy]; done) | (dsimp only; done) | rfl⟩
end
section
def W_ccount : List (Nat × Nat × Option Nat) := []
def F_ccount (s : SG) (what : Int32) : Int32 := bif m_cmp .eq what 0 then (s 10 0) else (bif m_cmp .eq what 1 then (let v5 := bif m_cmp .ne (F_cfault_1 s) (-1) then (0 : Int32) else s 111 1; v5) else (bif m_cmp .eq what 2 then (let v9 := bif m_cmp .ne (F_cfault_2 s) (-1) then (0 : Int32) else s 113 1; v9) else (bif m_cmp .eq what 3 then (((s 109 1) + (s 111 1)) + (s 113 1)) else (bif m_cmp .eq what 4 then (s 2 3) else (bif m_cmp .eq what 5 then (s 10 5) else (bif m_cmp .eq what 6 then (s 10 6) else (bif m_cmp .eq what 7 then (s 6 2) else (bif m_cmp .eq what 8 then (s 0 4) else ((-2))))))))))
set_option maxRecDepth 20000 in
set_option maxHeartbeats 200000 in
theorem ux_ccount (s : SG) (what : Int32)  : UP m_X6_count 0 (m_ent 2 [.ref 0, .int what]) [] s (Qi s (F_ccount s what)) := by
  refine UP.stp 1 (i1 := 1) (L1 := [some (.ref 0), some (.int what)]) (st1 := [.int what]) (s1 := s) rfl ?_
  refine UP.spl (m_cmp .eq what 0) (s 10 0) (bif m_cmp .eq what 1 then (let v5 := bif m_cmp .ne (F_cfault_1 s) (-1) then (0 : Int32) else s 111 1; v5) else (bif m_cmp .eq what 2 then (let v9 := bif m_cmp .ne (F_cfault_2 s) (-1) then (0 : Int32) else s 113 1; v9) else (bif m_cmp .eq what 3 then (((s 109 1) + (s 111 1)) + (s 113 1)) else (bif m_cmp .eq what 4 then (s 2 3) else (bif m_cmp .eq what 5 then (s 10 5) else (bif m_cmp .eq what 6 then (s 10 6) else (bif m_cmp .eq what 7 then (s 6 2) else (bif m_cmp .eq what 8 then (s 0 4) else ((-2)))))))))) (by first | (dsimp only [F_ccount]; done) | (dsimp only; done) | rfl) (fun cs0 => ?_) (fun cs0 => ?_)
  · skip
    refine UP.swT 0 rfl cs0 (by decide) (by decide) ?_
    refine UP.stp 3 (i1 := 5) (L1 := [some (.ref 0), some (.int what)]) (st1 := [.int (s 10 0)]) (s1 := s) rfl ?_
    exact UP.ret (r := some (.int (s 10 0))) rfl ⟨by first | (dsimp only [F_ccount]; done) | (dsimp only; done) | rfl, by first | (dsimp only [F_ccount]; done) | (dsimp only; done) | rfl⟩
  · skip
    refine UP.spl (m_cmp .eq what 1) (let v5 := bif m_cmp .ne (F_cfault_1 s) (-1) then (0 : Int32) else s 111 1; v5) (bif m_cmp .eq what 2 then (let v9 := bif m_cmp .ne (F_cfault_2 s) (-1) then (0 : Int32) else s 113 1; v9) else (bif m_cmp .eq what 3 then (((s 109 1) + (s 111 1)) + (s 113 1)) else (bif m_cmp .eq what 4 then (s 2 3) else (bif m_cmp .eq what 5 then (s 10 5) else (bif m_cmp .eq what 6 then (s 10 6) else (bif m_cmp .eq what 7 then (s 6 2) else (bif m_cmp .eq what 8 then (s 0 4) else ((-2))))))))) (by first | (dsimp only [F_ccount]; done) | (dsimp only; done) | rfl) (fun cs1 => ?_) (fun cs1 => ?_)
    · skip
      refine UP.swT 1 rfl cs1 (by decide) (by decide) ?_
      refine UP.stp 2 (i1 := 8) (L1 := [some (.ref 0), some (.int what)]) (st1 := [.int 1, .ref 0]) (s1 := s) rfl ?_
      refine UP.cI (M1 := m_X6_fault) (as := [.ref 0, .int 1]) (rest := []) (T := F_cfault_1 s ) rfl rfl (ux_cfault_1 s) ?_
      refine UP.stp 1 (i1 := 10) (L1 := [some (.ref 0), some (.int what)]) (st1 := [.int (-1), .int (F_cfault_1 s)]) (s1 := s) rfl ?_
      refine mrg (m_cmp .ne (F_cfault_1 s) (-1)) (0 : Int32) (s 111 1) (fun v5 : Int32 => UP m_X6_count 18 [some (.ref 0), some (.int what)] [.int v5] s (Qi s (let v5 := bif m_cmp .ne (F_cfault_1 s) (-1) then (0 : Int32) else s 111 1; v5))) (fun cc kk => ?_) (fun cc kk => ?_) (fun v5 e5 => ?_)
      · skip
        refine UP.icT rfl cc ?_
        refine UP.stp 1 (i1 := 18) (L1 := [some (.ref 0), some (.int what)]) (st1 := [.int 0]) (s1 := s) rfl ?_
        exact kk
      · skip
        refine UP.icF rfl cc ?_
        refine UP.stp 3 (i1 := 14) (L1 := [some (.ref 0), some (.int what)]) (st1 := [.int 1, .ref 1]) (s1 := s) rfl ?_
        refine UP.aald (e := 1) (r := 111) rfl rfl (by omega) rfl ?_
        refine UP.stp 2 (i1 := 18) (L1 := [some (.ref 0), some (.int what)]) (st1 := [.int (s 111 1)]) (s1 := s) rfl ?_
        exact kk
      exact UP.ret (r := some (.int v5)) rfl ⟨by subst e5; first | (dsimp only [F_ccount]; done) | (dsimp only; done) | rfl, by subst e5; first | (dsimp only [F_ccount]; done) | (dsimp only; done) | rfl⟩
    · skip
      refine UP.spl (m_cmp .eq what 2) (let v9 := bif m_cmp .ne (F_cfault_2 s) (-1) then (0 : Int32) else s 113 1; v9) (bif m_cmp .eq what 3 then (((s 109 1) + (s 111 1)) + (s 113 1)) else (bif m_cmp .eq what 4 then (s 2 3) else (bif m_cmp .eq what 5 then (s 10 5) else (bif m_cmp .eq what 6 then (s 10 6) else (bif m_cmp .eq what 7 then (s 6 2) else (bif m_cmp .eq what 8 then (s 0 4) else ((-2)))))))) (by first | (dsimp only [F_ccount]; done) | (dsimp only; done) | rfl) (fun cs2 => ?_) (fun cs2 => ?_)
      · skip
        refine UP.swT 2 rfl cs2 (by decide) (by decide) ?_
        refine UP.stp 2 (i1 := 21) (L1 := [some (.ref 0), some (.int what)]) (st1 := [.int 2, .ref 0]) (s1 := s) rfl ?_
        refine UP.cI (M1 := m_X6_fault) (as := [.ref 0, .int 2]) (rest := []) (T := F_cfault_2 s ) rfl rfl (ux_cfault_2 s) ?_
        refine UP.stp 1 (i1 := 23) (L1 := [some (.ref 0), some (.int what)]) (st1 := [.int (-1), .int (F_cfault_2 s)]) (s1 := s) rfl ?_
        refine mrg (m_cmp .ne (F_cfault_2 s) (-1)) (0 : Int32) (s 113 1) (fun v9 : Int32 => UP m_X6_count 31 [some (.ref 0), some (.int what)] [.int v9] s (Qi s (let v9 := bif m_cmp .ne (F_cfault_2 s) (-1) then (0 : Int32) else s 113 1; v9))) (fun cc kk => ?_) (fun cc kk => ?_) (fun v9 e9 => ?_)
        · skip
          refine UP.icT rfl cc ?_
          refine UP.stp 1 (i1 := 31) (L1 := [some (.ref 0), some (.int what)]) (st1 := [.int 0]) (s1 := s) rfl ?_
          exact kk
        · skip
          refine UP.icF rfl cc ?_
          refine UP.stp 3 (i1 := 27) (L1 := [some (.ref 0), some (.int what)]) (st1 := [.int 2, .ref 1]) (s1 := s) rfl ?_
          refine UP.aald (e := 2) (r := 113) rfl rfl (by omega) rfl ?_
          refine UP.stp 2 (i1 := 31) (L1 := [some (.ref 0), some (.int what)]) (st1 := [.int (s 113 1)]) (s1 := s) rfl ?_
          exact kk
        exact UP.ret (r := some (.int v9)) rfl ⟨by subst e9; first | (dsimp only [F_ccount]; done) | (dsimp only; done) | rfl, by subst e9; first | (dsimp only [F_ccount]; done) | (dsimp only; done) | rfl⟩
      · skip
        refine UP.spl (m_cmp .eq what 3) (((s 109 1) + (s 111 1)) + (s 113 1)) (bif m_cmp .eq what 4 then (s 2 3) else (bif m_cmp .eq what 5 then (s 10 5) else (bif m_cmp .eq what 6 then (s 10 6) else (bif m_cmp .eq what 7 then (s 6 2) else (bif m_cmp .eq what 8 then (s 0 4) else ((-2))))))) (by first | (dsimp only [F_ccount]; done) | (dsimp only; done) | rfl) (fun cs3 => ?_) (fun cs3 => ?_)
        · skip
          refine UP.swT 3 rfl cs3 (by decide) (by decide) ?_
          refine UP.stp 3 (i1 := 35) (L1 := [some (.ref 0), some (.int what)]) (st1 := [.int 0, .ref 1]) (s1 := s) rfl ?_
          refine UP.aald (e := 0) (r := 109) rfl rfl (by omega) rfl ?_
          refine UP.stp 4 (i1 := 40) (L1 := [some (.ref 0), some (.int what)]) (st1 := [.int 1, .ref 1, .int (s 109 1)]) (s1 := s) rfl ?_
          refine UP.aald (e := 1) (r := 111) rfl rfl (by omega) rfl ?_
          refine UP.stp 5 (i1 := 46) (L1 := [some (.ref 0), some (.int what)]) (st1 := [.int 2, .ref 1, .int ((s 109 1) + (s 111 1))]) (s1 := s) rfl ?_
          refine UP.aald (e := 2) (r := 113) rfl rfl (by omega) rfl ?_
          refine UP.stp 2 (i1 := 49) (L1 := [some (.ref 0), some (.int what)]) (st1 := [.int (((s 109 1) + (s 111 1)) + (s 113 1))]) (s1 := s) rfl ?_
          exact UP.ret (r := some (.int (((s 109 1) + (s 111 1)) + (s 113 1)))) rfl ⟨by first | (dsimp only [F_ccount]; done) | (dsimp only; done) | rfl, by first | (dsimp only [F_ccount]; done) | (dsimp only; done) | rfl⟩
        · skip
          refine UP.spl (m_cmp .eq what 4) (s 2 3) (bif m_cmp .eq what 5 then (s 10 5) else (bif m_cmp .eq what 6 then (s 10 6) else (bif m_cmp .eq what 7 then (s 6 2) else (bif m_cmp .eq what 8 then (s 0 4) else ((-2)))))) (by first | (dsimp only [F_ccount]; done) | (dsimp only; done) | rfl) (fun cs4 => ?_) (fun cs4 => ?_)
          · skip
            refine UP.swT 4 rfl cs4 (by decide) (by decide) ?_
            refine UP.stp 3 (i1 := 53) (L1 := [some (.ref 0), some (.int what)]) (st1 := [.int (s 2 3)]) (s1 := s) rfl ?_
            exact UP.ret (r := some (.int (s 2 3))) rfl ⟨by first | (dsimp only [F_ccount]; done) | (dsimp only; done) | rfl, by first | (dsimp only [F_ccount]; done) | (dsimp only; done) | rfl⟩
          · skip
            refine UP.spl (m_cmp .eq what 5) (s 10 5) (bif m_cmp .eq what 6 then (s 10 6) else (bif m_cmp .eq what 7 then (s 6 2) else (bif m_cmp .eq what 8 then (s 0 4) else ((-2))))) (by first | (dsimp only [F_ccount]; done) | (dsimp only; done) | rfl) (fun cs5 => ?_) (fun cs5 => ?_)
            · skip
              refine UP.swT 5 rfl cs5 (by decide) (by decide) ?_
              refine UP.stp 3 (i1 := 57) (L1 := [some (.ref 0), some (.int what)]) (st1 := [.int (s 10 5)]) (s1 := s) rfl ?_
              exact UP.ret (r := some (.int (s 10 5))) rfl ⟨by first | (dsimp only [F_ccount]; done) | (dsimp only; done) | rfl, by first | (dsimp only [F_ccount]; done) | (dsimp only; done) | rfl⟩
            · skip
              refine UP.spl (m_cmp .eq what 6) (s 10 6) (bif m_cmp .eq what 7 then (s 6 2) else (bif m_cmp .eq what 8 then (s 0 4) else ((-2)))) (by first | (dsimp only [F_ccount]; done) | (dsimp only; done) | rfl) (fun cs6 => ?_) (fun cs6 => ?_)
              · skip
                refine UP.swT 6 rfl cs6 (by decide) (by decide) ?_
                refine UP.stp 3 (i1 := 61) (L1 := [some (.ref 0), some (.int what)]) (st1 := [.int (s 10 6)]) (s1 := s) rfl ?_
                exact UP.ret (r := some (.int (s 10 6))) rfl ⟨by first | (dsimp only [F_ccount]; done) | (dsimp only; done) | rfl, by first | (dsimp only [F_ccount]; done) | (dsimp only; done) | rfl⟩
              · skip
                refine UP.spl (m_cmp .eq what 7) (s 6 2) (bif m_cmp .eq what 8 then (s 0 4) else ((-2))) (by first | (dsimp only [F_ccount]; done) | (dsimp only; done) | rfl) (fun cs7 => ?_) (fun cs7 => ?_)
                · skip
                  refine UP.swT 7 rfl cs7 (by decide) (by decide) ?_
                  refine UP.stp 3 (i1 := 65) (L1 := [some (.ref 0), some (.int what)]) (st1 := [.int (s 6 2)]) (s1 := s) rfl ?_
                  exact UP.ret (r := some (.int (s 6 2))) rfl ⟨by first | (dsimp only [F_ccount]; done) | (dsimp only; done) | rfl, by first | (dsimp only [F_ccount]; done) | (dsimp only; done) | rfl⟩
                · skip
                  refine UP.spl (m_cmp .eq what 8) (s 0 4) ((-2)) (by first | (dsimp only [F_ccount]; done) | (dsimp only; done) | rfl) (fun cs8 => ?_) (fun cs8 => ?_)
                  · skip
                    refine UP.swT 8 rfl cs8 (by decide) (by decide) ?_
                    refine UP.stp 2 (i1 := 68) (L1 := [some (.ref 0), some (.int what)]) (st1 := [.int (s 0 4)]) (s1 := s) rfl ?_
                    exact UP.ret (r := some (.int (s 0 4))) rfl ⟨by first | (dsimp only [F_ccount]; done) | (dsimp only; done) | rfl, by first | (dsimp only [F_ccount]; done) | (dsimp only; done) | rfl⟩
                  · skip
                    refine UP.swD rfl (by have c0_ : what.toInt ≠ 0 := ne_int cs0; have c1_ : what.toInt ≠ 1 := ne_int cs1; have c2_ : what.toInt ≠ 2 := ne_int cs2; have c3_ : what.toInt ≠ 3 := ne_int cs3; have c4_ : what.toInt ≠ 4 := ne_int cs4; have c5_ : what.toInt ≠ 5 := ne_int cs5; have c6_ : what.toInt ≠ 6 := ne_int cs6; have c7_ : what.toInt ≠ 7 := ne_int cs7; have c8_ : what.toInt ≠ 8 := ne_int cs8; omega) ?_
                    refine UP.stp 1 (i1 := 70) (L1 := [some (.ref 0), some (.int what)]) (st1 := [.int (-2)]) (s1 := s) rfl ?_
                    exact UP.ret (r := some (.int (-2))) rfl ⟨by first | (dsimp only [F_ccount]; done) | (dsimp only; done) | rfl, by first | (dsimp only [F_ccount]; done) | (dsimp only; done) | rfl⟩
end
section
def W_begin_0 : List (Nat × Nat × Option Nat) := [(115, 115, none), (116, 116, none), (0, 0, some 4)]
def F_begin_0 (s : SG) (f : Int32) (n : Int32) : SG := let z1 := fil s 116 60 0; (uset (uset (uset z1 115 1 0) 115 2 f) 115 3 n)
set_option maxRecDepth 20000 in
set_option maxHeartbeats 200000 in
theorem fr_begin_0 (s : SG) (f : Int32) (n : Int32)  : Fr W_begin_0 s (F_begin_0 s f n) := by dsimp only [F_begin_0]; exact (let z1 : SG := fil s 116 60 0; (Fr.uset (s1 := (uset (uset z1 115 1 0) 115 2 f)) (a := 115) (j := 3) (x := n) (by rfl) (Fr.uset (s1 := (uset z1 115 1 0)) (a := 115) (j := 2) (x := f) (by rfl) (Fr.uset (s1 := z1) (a := 115) (j := 1) (x := 0) (by rfl) (Fr.fil (by rfl) (Fr.rf _ _))))))
set_option maxRecDepth 20000 in
set_option maxHeartbeats 200000 in
theorem ux_begin_0 (s : SG) (f : Int32) (n : Int32)  : UP m_X3_begin 0 (m_ent 3 [.ref 115, .int f, .int n]) [] s (Qv (F_begin_0 s f n)) := by
  refine UP.stp 3 (i1 := 3) (L1 := [some (.ref 115), some (.int f), some (.int n)]) (st1 := [.int 0, .ref 116]) (s1 := s) rfl ?_
  refine UP.cV (M1 := m_J7_fill_53178) (as := [.ref 116, .int 0]) (rest := []) (T := fil s 116 60 0) rfl rfl (ux_fill s 116 0 60 rfl (by decide)) (fun z1 e1 => ?_)
  refine UP.stp 9 (i1 := 13) (L1 := [some (.ref 115), some (.int f), some (.int n)]) (st1 := []) (s1 := (uset (uset (uset z1 115 1 0) 115 2 f) 115 3 n)) rfl ?_
  exact UP.ret (r := none) rfl ⟨by subst e1; first | (dsimp only [F_begin_0]; done) | (dsimp only; done) | rfl, by subst e1; first | (dsimp only [F_begin_0]; done) | (dsimp only; done) | rfl⟩
def W_findingOf_0 : List (Nat × Nat × Option Nat) := []
def F_findingOf_0 (s : SG) (f : Int32) (i : Int32) : Int32 := bif m_cmp .eq (s 115 1) 0 then (bif m_cmp .eq (s 115 2) f then (let v6 := bif m_cmp .eq (F_isBelow s i (s 115 3)) 0 then (2 : Int32) else (0 : Int32); v6) else (3)) else (1)
set_option maxRecDepth 20000 in
set_option maxHeartbeats 200000 in
theorem ux_findingOf_0 (s : SG) (f : Int32) (i : Int32)  : UP m_X3_findingOf 0 (m_ent 3 [.ref 115, .int f, .int i]) [] s (Qi s (F_findingOf_0 s f i)) := by
  refine UP.stp 2 (i1 := 2) (L1 := [some (.ref 115), some (.int f), some (.int i)]) (st1 := [.int (s 115 1)]) (s1 := s) rfl ?_
  refine UP.spl (m_cmp .eq (s 115 1) 0) (bif m_cmp .eq (s 115 2) f then (let v6 := bif m_cmp .eq (F_isBelow s i (s 115 3)) 0 then (2 : Int32) else (0 : Int32); v6) else (3)) (1) (by first | (dsimp only [F_findingOf_0]; done) | (dsimp only; done) | rfl) (fun cc => ?_) (fun cc => ?_)
  · skip
    refine UP.ifT rfl cc ?_
    refine UP.stp 3 (i1 := 8) (L1 := [some (.ref 115), some (.int f), some (.int i)]) (st1 := [.int f, .int (s 115 2)]) (s1 := s) rfl ?_
    refine UP.spl (m_cmp .eq (s 115 2) f) (let v6 := bif m_cmp .eq (F_isBelow s i (s 115 3)) 0 then (2 : Int32) else (0 : Int32); v6) (3) (by first | (dsimp only [F_findingOf_0]; done) | (dsimp only; done) | rfl) (fun cc => ?_) (fun cc => ?_)
    · skip
      refine UP.icT rfl cc ?_
      refine UP.stp 3 (i1 := 14) (L1 := [some (.ref 115), some (.int f), some (.int i)]) (st1 := [.int (s 115 3), .int i]) (s1 := s) rfl ?_
      refine UP.cI (M1 := m_X6_isBelow) (as := [.int i, .int (s 115 3)]) (rest := []) (T := F_isBelow s i (s 115 3)) rfl rfl (ux_isBelow s i (s 115 3)) ?_
      refine mrg (m_cmp .eq (F_isBelow s i (s 115 3)) 0) (2 : Int32) (0 : Int32) (fun v6 : Int32 => UP m_X3_findingOf 19 [some (.ref 115), some (.int f), some (.int i)] [.int v6] s (Qi s (let v6 := bif m_cmp .eq (F_isBelow s i (s 115 3)) 0 then (2 : Int32) else (0 : Int32); v6))) (fun cc kk => ?_) (fun cc kk => ?_) (fun v6 e6 => ?_)
      · skip
        refine UP.ifT rfl cc ?_
        refine UP.stp 1 (i1 := 19) (L1 := [some (.ref 115), some (.int f), some (.int i)]) (st1 := [.int 2]) (s1 := s) rfl ?_
        exact kk
      · skip
        refine UP.ifF rfl cc ?_
        refine UP.stp 2 (i1 := 19) (L1 := [some (.ref 115), some (.int f), some (.int i)]) (st1 := [.int 0]) (s1 := s) rfl ?_
        exact kk
      exact UP.ret (r := some (.int v6)) rfl ⟨by subst e6; first | (dsimp only [F_findingOf_0]; done) | (dsimp only; done) | rfl, by subst e6; first | (dsimp only [F_findingOf_0]; done) | (dsimp only; done) | rfl⟩
    · skip
      refine UP.icF rfl cc ?_
      refine UP.stp 1 (i1 := 10) (L1 := [some (.ref 115), some (.int f), some (.int i)]) (st1 := [.int 3]) (s1 := s) rfl ?_
      exact UP.ret (r := some (.int 3)) rfl ⟨by first | (dsimp only [F_findingOf_0]; done) | (dsimp only; done) | rfl, by first | (dsimp only [F_findingOf_0]; done) | (dsimp only; done) | rfl⟩
  · skip
    refine UP.ifF rfl cc ?_
    refine UP.stp 1 (i1 := 4) (L1 := [some (.ref 115), some (.int f), some (.int i)]) (st1 := [.int 1]) (s1 := s) rfl ?_
    exact UP.ret (r := some (.int 1)) rfl ⟨by first | (dsimp only [F_findingOf_0]; done) | (dsimp only; done) | rfl, by first | (dsimp only [F_findingOf_0]; done) | (dsimp only; done) | rfl⟩
def W_ckeep_0 : List (Nat × Nat × Option Nat) := [(115, 115, none), (116, 116, none), (0, 0, some 4)]
def F_ckeep_0 (s : SG) (i : Int32) (v : Int32) : SG := let v2 := bif m_cmp .ne (s 115 2) 0 then (bif m_cmp .ne (s 115 2) 1 then v else v.toInt16.toInt32) else v.toInt8.toInt32; (uset s 116 i.toNatClampNeg v2)
set_option maxRecDepth 20000 in
set_option maxHeartbeats 200000 in
theorem fr_ckeep_0 (s : SG) (i : Int32) (v : Int32)  : Fr W_ckeep_0 s (F_ckeep_0 s i v) := by dsimp only [F_ckeep_0]; exact (let v2 : Int32 := bif m_cmp .ne (s 115 2) 0 then (bif m_cmp .ne (s 115 2) 1 then v else v.toInt16.toInt32) else v.toInt8.toInt32; (Fr.uset (s1 := s) (a := 116) (j := i.toNatClampNeg) (x := v2) (by rfl) (Fr.rf _ _)))
set_option maxRecDepth 20000 in
set_option maxHeartbeats 200000 in
theorem ux_ckeep_0 (s : SG) (i : Int32) (v : Int32)  : UP m_X3_keep 0 (m_ent 3 [.ref 115, .int i, .int v]) [] s (Qv (F_ckeep_0 s i v)) := by
  refine UP.stp 5 (i1 := 5) (L1 := [some (.ref 115), some (.int i), some (.int v)]) (st1 := [.int (s 115 2), .int i, .ref 116]) (s1 := s) rfl ?_
  refine mrg (m_cmp .ne (s 115 2) 0) (bif m_cmp .ne (s 115 2) 1 then v else v.toInt16.toInt32) v.toInt8.toInt32 (fun v2 : Int32 => UP m_X3_keep 17 [some (.ref 115), some (.int i), some (.int v)] [.int v2, .int i, .ref 116] s (Qv (F_ckeep_0 s i v))) (fun cc kk => ?_) (fun cc kk => ?_) (fun v2 e2 => ?_)
  · skip
    refine UP.ifT rfl cc ?_
    refine UP.stp 3 (i1 := 12) (L1 := [some (.ref 115), some (.int i), some (.int v)]) (st1 := [.int 1, .int (s 115 2), .int i, .ref 116]) (s1 := s) rfl ?_
    refine mrg (m_cmp .ne (s 115 2) 1) v v.toInt16.toInt32 (fun v1 : Int32 => UP m_X3_keep 17 [some (.ref 115), some (.int i), some (.int v)] [.int v1, .int i, .ref 116] s (Qv (F_ckeep_0 s i v))) (fun cc kk => ?_) (fun cc kk => ?_) (fun v1 e1 => ?_)
    · skip
      refine UP.icT rfl cc ?_
      refine UP.stp 1 (i1 := 17) (L1 := [some (.ref 115), some (.int i), some (.int v)]) (st1 := [.int v, .int i, .ref 116]) (s1 := s) rfl ?_
      exact kk
    · skip
      refine UP.icF rfl cc ?_
      refine UP.stp 3 (i1 := 17) (L1 := [some (.ref 115), some (.int i), some (.int v)]) (st1 := [.int v.toInt16.toInt32, .int i, .ref 116]) (s1 := s) rfl ?_
      exact kk
    subst e1
    exact kk
  · skip
    refine UP.ifF rfl cc ?_
    refine UP.stp 3 (i1 := 17) (L1 := [some (.ref 115), some (.int i), some (.int v)]) (st1 := [.int v.toInt8.toInt32, .int i, .ref 116]) (s1 := s) rfl ?_
    exact kk
  refine UP.stp 1 (i1 := 18) (L1 := [some (.ref 115), some (.int i), some (.int v)]) (st1 := []) (s1 := (uset s 116 i.toNatClampNeg v2)) rfl ?_
  exact UP.ret (r := none) rfl ⟨by subst e2; first | (dsimp only [F_ckeep_0]; done) | (dsimp only; done) | rfl, by subst e2; first | (dsimp only [F_ckeep_0]; done) | (dsimp only; done) | rfl⟩
end
section
def W_csheet_0 : List (Nat × Nat × Option Nat) := [(115, 115, none), (116, 116, none), (0, 0, some 4)]
def F_csheet_0 (s : SG) (form : Int32) (n : Int32) : Int32 × SG := bif m_cmp .eq (F_isBelow s 0 4) 0 then (((-2), s)) else (bif m_cmp .eq (F_isBelow s form 3) 0 then (((-2), s)) else (bif m_cmp .le n 60 then (bif m_cmp .ge n 0 then (let z11 := F_begin_0 s form n; (n, z11)) else (let z12 := F_find s 5; z12)) else (((-2), s))))
set_option maxRecDepth 20000 in
set_option maxHeartbeats 200000 in
theorem fr_csheet_0 (s : SG) (form : Int32) (n : Int32)  : Fr W_csheet_0 s (F_csheet_0 s form n).2 := by dsimp only [F_csheet_0]; exact (Fr.bifp (b := m_cmp .eq (F_isBelow s 0 4) 0) (x := ((-2), s)) (y := bif m_cmp .eq (F_isBelow s form 3) 0 then (((-2), s)) else (bif m_cmp .le n 60 then (bif m_cmp .ge n 0 then (let z11 := F_begin_0 s form n; (n, z11)) else (let z12 := F_find s 5; z12)) else (((-2), s)))) (fun x : Int32 × SG => x.2) (by (try dsimp only); exact (Fr.rf _ _)) (by (try dsimp only); exact (Fr.bifp (b := m_cmp .eq (F_isBelow s form 3) 0) (x := ((-2), s)) (y := bif m_cmp .le n 60 then (bif m_cmp .ge n 0 then (let z11 := F_begin_0 s form n; (n, z11)) else (let z12 := F_find s 5; z12)) else (((-2), s))) (fun x : Int32 × SG => x.2) (by (try dsimp only); exact (Fr.rf _ _)) (by (try dsimp only); exact (Fr.bifp (b := m_cmp .le n 60) (x := bif m_cmp .ge n 0 then (let z11 := F_begin_0 s form n; (n, z11)) else (let z12 := F_find s 5; z12)) (y := ((-2), s)) (fun x : Int32 × SG => x.2) (by (try dsimp only); exact (Fr.bifp (b := m_cmp .ge n 0) (x := let z11 := F_begin_0 s form n; (n, z11)) (y := let z12 := F_find s 5; z12) (fun x : Int32 × SG => x.2) (by (try dsimp only); exact (Fr.tr (s1 := s) (Fr.rf _ _) (Fr.wk (W2 := W_csheet_0) (fr_begin_0 s form n) (by rfl)))) (by (try dsimp only); exact (Fr.tr (s1 := s) (Fr.rf _ _) (Fr.wk (W2 := W_csheet_0) (fr_find s 5) (by rfl)))))) (by (try dsimp only); exact (Fr.rf _ _)))))))
set_option maxRecDepth 20000 in
set_option maxHeartbeats 200000 in
theorem ux_csheet_0 (s : SG) (form : Int32) (n : Int32)  : UP m_X6_sheet 0 (m_ent 4 [.ref 0, .int 0, .int form, .int n]) [] s (Qb (F_csheet_0 s form n)) := by
  refine UP.stp 2 (i1 := 2) (L1 := [some (.ref 0), some (.int 0), some (.int form), some (.int n)]) (st1 := [.int 4, .int 0]) (s1 := s) rfl ?_
  refine UP.cI (M1 := m_X6_isBelow) (as := [.int 0, .int 4]) (rest := []) (T := F_isBelow s 0 4) rfl rfl (ux_isBelow s 0 4) ?_
  refine UP.spl (m_cmp .eq (F_isBelow s 0 4) 0) (((-2), s)) (bif m_cmp .eq (F_isBelow s form 3) 0 then (((-2), s)) else (bif m_cmp .le n 60 then (bif m_cmp .ge n 0 then (let z11 := F_begin_0 s form n; (n, z11)) else (let z12 := F_find s 5; z12)) else (((-2), s)))) (by first | (dsimp only [F_csheet_0]; done) | (dsimp only; done) | rfl) (fun cc => ?_) (fun cc => ?_)
  · skip
    refine UP.ifT rfl cc ?_
    refine UP.stp 1 (i1 := 12) (L1 := [some (.ref 0), some (.int 0), some (.int form), some (.int n)]) (st1 := [.int (-2)]) (s1 := s) rfl ?_
    exact UP.ret (r := some (.int (-2))) rfl ⟨by first | (dsimp only [F_csheet_0]; done) | (dsimp only; done) | rfl, by first | (dsimp only [F_csheet_0]; done) | (dsimp only; done) | rfl⟩
  · skip
    refine UP.ifF rfl cc ?_
    refine UP.stp 2 (i1 := 6) (L1 := [some (.ref 0), some (.int 0), some (.int form), some (.int n)]) (st1 := [.int 3, .int form]) (s1 := s) rfl ?_
    refine UP.cI (M1 := m_X6_isBelow) (as := [.int form, .int 3]) (rest := []) (T := F_isBelow s form 3) rfl rfl (ux_isBelow s form 3) ?_
    refine UP.spl (m_cmp .eq (F_isBelow s form 3) 0) (((-2), s)) (bif m_cmp .le n 60 then (bif m_cmp .ge n 0 then (let z11 := F_begin_0 s form n; (n, z11)) else (let z12 := F_find s 5; z12)) else (((-2), s))) (by first | (dsimp only [F_csheet_0]; done) | (dsimp only; done) | rfl) (fun cc => ?_) (fun cc => ?_)
    · skip
      refine UP.ifT rfl cc ?_
      refine UP.stp 1 (i1 := 12) (L1 := [some (.ref 0), some (.int 0), some (.int form), some (.int n)]) (st1 := [.int (-2)]) (s1 := s) rfl ?_
      exact UP.ret (r := some (.int (-2))) rfl ⟨by first | (dsimp only [F_csheet_0]; done) | (dsimp only; done) | rfl, by first | (dsimp only [F_csheet_0]; done) | (dsimp only; done) | rfl⟩
    · skip
      refine UP.ifF rfl cc ?_
      refine UP.stp 2 (i1 := 10) (L1 := [some (.ref 0), some (.int 0), some (.int form), some (.int n)]) (st1 := [.int 60, .int n]) (s1 := s) rfl ?_
      refine UP.spl (m_cmp .le n 60) (bif m_cmp .ge n 0 then (let z11 := F_begin_0 s form n; (n, z11)) else (let z12 := F_find s 5; z12)) (((-2), s)) (by first | (dsimp only [F_csheet_0]; done) | (dsimp only; done) | rfl) (fun cc => ?_) (fun cc => ?_)
      · skip
        refine UP.icT rfl cc ?_
        refine UP.stp 1 (i1 := 14) (L1 := [some (.ref 0), some (.int 0), some (.int form), some (.int n)]) (st1 := [.int n]) (s1 := s) rfl ?_
        refine UP.spl (m_cmp .ge n 0) (let z11 := F_begin_0 s form n; (n, z11)) (let z12 := F_find s 5; z12) (by first | (dsimp only [F_csheet_0]; done) | (dsimp only; done) | rfl) (fun cc => ?_) (fun cc => ?_)
        · skip
          refine UP.ifT rfl cc ?_
          refine UP.stp 3 (i1 := 22) (L1 := [some (.ref 0), some (.int 0), some (.int form), some (.int n)]) (st1 := [.int 0, .ref 9]) (s1 := s) rfl ?_
          refine UP.aald (e := 0) (r := 115) rfl rfl (by omega) rfl ?_
          refine UP.stp 2 (i1 := 25) (L1 := [some (.ref 0), some (.int 0), some (.int form), some (.int n)]) (st1 := [.int n, .int form, .ref 115]) (s1 := s) rfl ?_
          refine UP.cV (M1 := m_X3_begin) (as := [.ref 115, .int form, .int n]) (rest := []) (T := F_begin_0 s form n) rfl rfl (ux_begin_0 s form n) (fun z11 e11 => ?_)
          refine UP.stp 1 (i1 := 27) (L1 := [some (.ref 0), some (.int 0), some (.int form), some (.int n)]) (st1 := [.int n]) (s1 := z11) rfl ?_
          exact UP.ret (r := some (.int n)) rfl ⟨by subst e11; first | (dsimp only [F_csheet_0]; done) | (dsimp only; done) | rfl, by subst e11; first | (dsimp only [F_csheet_0]; done) | (dsimp only; done) | rfl⟩
        · skip
          refine UP.ifF rfl cc ?_
          refine UP.stp 2 (i1 := 17) (L1 := [some (.ref 0), some (.int 0), some (.int form), some (.int n)]) (st1 := [.int 5, .ref 0]) (s1 := s) rfl ?_
          refine UP.cB (M1 := m_X6_find) (as := [.ref 0, .int 5]) (rest := []) (T := F_find s 5) rfl rfl (ux_find s 5) (fun z12 e12 => ?_)
          exact UP.ret (r := some (.int z12.1)) rfl ⟨by subst e12; first | (dsimp only [F_csheet_0]; done) | (dsimp only; done) | rfl, by subst e12; first | (dsimp only [F_csheet_0]; done) | (dsimp only; done) | rfl⟩
      · skip
        refine UP.icF rfl cc ?_
        refine UP.stp 1 (i1 := 12) (L1 := [some (.ref 0), some (.int 0), some (.int form), some (.int n)]) (st1 := [.int (-2)]) (s1 := s) rfl ?_
        exact UP.ret (r := some (.int (-2))) rfl ⟨by first | (dsimp only [F_csheet_0]; done) | (dsimp only; done) | rfl, by first | (dsimp only [F_csheet_0]; done) | (dsimp only; done) | rfl⟩
def W_close_0 : List (Nat × Nat × Option Nat) := [(115, 115, none), (116, 116, none), (0, 0, some 4)]
def F_close_0 (s : SG)  : Int32 × SG := bif m_cmp .ne (F_isBelow s 0 4) 0 then (bif m_cmp .eq (s 115 1) 0 then ((s 115 3, (uset s 115 1 1))) else (let z6 := F_find s 1; z6)) else (((-2), s))
set_option maxRecDepth 20000 in
set_option maxHeartbeats 200000 in
theorem fr_close_0 (s : SG)   : Fr W_close_0 s (F_close_0 s).2 := by dsimp only [F_close_0]; exact (Fr.bifp (b := m_cmp .ne (F_isBelow s 0 4) 0) (x := bif m_cmp .eq (s 115 1) 0 then ((s 115 3, (uset s 115 1 1))) else (let z6 := F_find s 1; z6)) (y := ((-2), s)) (fun x : Int32 × SG => x.2) (by (try dsimp only); exact (Fr.bifp (b := m_cmp .eq (s 115 1) 0) (x := (s 115 3, (uset s 115 1 1))) (y := let z6 := F_find s 1; z6) (fun x : Int32 × SG => x.2) (by (try dsimp only); exact (Fr.uset (s1 := s) (a := 115) (j := 1) (x := 1) (by rfl) (Fr.rf _ _))) (by (try dsimp only); exact (Fr.tr (s1 := s) (Fr.rf _ _) (Fr.wk (W2 := W_close_0) (fr_find s 1) (by rfl)))))) (by (try dsimp only); exact (Fr.rf _ _)))
set_option maxRecDepth 20000 in
set_option maxHeartbeats 200000 in
theorem ux_close_0 (s : SG)   : UP m_X6_lose 0 (m_ent 2 [.ref 0, .int 0]) [] s (Qb (F_close_0 s)) := by
  refine UP.stp 2 (i1 := 2) (L1 := [some (.ref 0), some (.int 0)]) (st1 := [.int 4, .int 0]) (s1 := s) rfl ?_
  refine UP.cI (M1 := m_X6_isBelow) (as := [.int 0, .int 4]) (rest := []) (T := F_isBelow s 0 4) rfl rfl (ux_isBelow s 0 4) ?_
  refine UP.spl (m_cmp .ne (F_isBelow s 0 4) 0) (bif m_cmp .eq (s 115 1) 0 then ((s 115 3, (uset s 115 1 1))) else (let z6 := F_find s 1; z6)) (((-2), s)) (by first | (dsimp only [F_close_0]; done) | (dsimp only; done) | rfl) (fun cc => ?_) (fun cc => ?_)
  · skip
    refine UP.ifT rfl cc ?_
    refine UP.stp 3 (i1 := 9) (L1 := [some (.ref 0), some (.int 0)]) (st1 := [.int 0, .ref 9]) (s1 := s) rfl ?_
    refine UP.aald (e := 0) (r := 115) rfl rfl (by omega) rfl ?_
    refine UP.stp 1 (i1 := 11) (L1 := [some (.ref 0), some (.int 0)]) (st1 := [.int (s 115 1)]) (s1 := s) rfl ?_
    refine UP.spl (m_cmp .eq (s 115 1) 0) ((s 115 3, (uset s 115 1 1))) (let z6 := F_find s 1; z6) (by first | (dsimp only [F_close_0]; done) | (dsimp only; done) | rfl) (fun cc => ?_) (fun cc => ?_)
    · skip
      refine UP.ifT rfl cc ?_
      refine UP.stp 3 (i1 := 19) (L1 := [some (.ref 0), some (.int 0)]) (st1 := [.int 0, .ref 9]) (s1 := s) rfl ?_
      refine UP.aald (e := 0) (r := 115) rfl rfl (by omega) rfl ?_
      refine UP.stp 5 (i1 := 25) (L1 := [some (.ref 0), some (.int 0)]) (st1 := [.int 0, .ref 9]) (s1 := (uset s 115 1 1)) rfl ?_
      refine UP.aald (e := 0) (r := 115) rfl rfl (by omega) rfl ?_
      refine UP.stp 1 (i1 := 27) (L1 := [some (.ref 0), some (.int 0)]) (st1 := [.int (s 115 3)]) (s1 := (uset s 115 1 1)) rfl ?_
      exact UP.ret (r := some (.int (s 115 3))) rfl ⟨by first | (dsimp only [F_close_0]; done) | (dsimp only; done) | rfl, by first | (dsimp only [F_close_0]; done) | (dsimp only; done) | rfl⟩
    · skip
      refine UP.ifF rfl cc ?_
      refine UP.stp 2 (i1 := 14) (L1 := [some (.ref 0), some (.int 0)]) (st1 := [.int 1, .ref 0]) (s1 := s) rfl ?_
      refine UP.cB (M1 := m_X6_find) (as := [.ref 0, .int 1]) (rest := []) (T := F_find s 1) rfl rfl (ux_find s 1) (fun z6 e6 => ?_)
      exact UP.ret (r := some (.int z6.1)) rfl ⟨by subst e6; first | (dsimp only [F_close_0]; done) | (dsimp only; done) | rfl, by subst e6; first | (dsimp only [F_close_0]; done) | (dsimp only; done) | rfl⟩
  · skip
    refine UP.ifF rfl cc ?_
    refine UP.stp 1 (i1 := 5) (L1 := [some (.ref 0), some (.int 0)]) (st1 := [.int (-2)]) (s1 := s) rfl ?_
    exact UP.ret (r := some (.int (-2))) rfl ⟨by first | (dsimp only [F_close_0]; done) | (dsimp only; done) | rfl, by first | (dsimp only [F_close_0]; done) | (dsimp only; done) | rfl⟩
end
section
def W_cput_0 : List (Nat × Nat × Option Nat) := [(115, 115, none), (116, 116, none), (0, 0, some 4)]
def F_cput_0 (s : SG) (form : Int32) (i : Int32) (v : Int32) : Int32 × SG := bif m_cmp .eq (F_isBelow s 0 4) 0 then (((-2), s)) else (bif m_cmp .ne (F_isBelow s form 3) 0 then (let v8 := F_findingOf_0 s form i; bif m_cmp .eq v8 0 then (let z11 := F_ckeep_0 s i v; (1, z11)) else (let z12 := F_find s v8; z12)) else (((-2), s)))
set_option maxRecDepth 20000 in
set_option maxHeartbeats 200000 in
theorem fr_cput_0 (s : SG) (form : Int32) (i : Int32) (v : Int32)  : Fr W_cput_0 s (F_cput_0 s form i v).2 := by dsimp only [F_cput_0]; exact (Fr.bifp (b := m_cmp .eq (F_isBelow s 0 4) 0) (x := ((-2), s)) (y := bif m_cmp .ne (F_isBelow s form 3) 0 then (let v8 := F_findingOf_0 s form i; bif m_cmp .eq v8 0 then (let z11 := F_ckeep_0 s i v; (1, z11)) else (let z12 := F_find s v8; z12)) else (((-2), s))) (fun x : Int32 × SG => x.2) (by (try dsimp only); exact (Fr.rf _ _)) (by (try dsimp only); exact (Fr.bifp (b := m_cmp .ne (F_isBelow s form 3) 0) (x := let v8 := F_findingOf_0 s form i; bif m_cmp .eq v8 0 then (let z11 := F_ckeep_0 s i v; (1, z11)) else (let z12 := F_find s v8; z12)) (y := ((-2), s)) (fun x : Int32 × SG => x.2) (by (try dsimp only); exact (let v8 : Int32 := F_findingOf_0 s form i; (Fr.bifp (b := m_cmp .eq v8 0) (x := let z11 := F_ckeep_0 s i v; (1, z11)) (y := let z12 := F_find s v8; z12) (fun x : Int32 × SG => x.2) (by (try dsimp only); exact (Fr.tr (s1 := s) (Fr.rf _ _) (Fr.wk (W2 := W_cput_0) (fr_ckeep_0 s i v) (by rfl)))) (by (try dsimp only); exact (Fr.tr (s1 := s) (Fr.rf _ _) (Fr.wk (W2 := W_cput_0) (fr_find s v8) (by rfl))))))) (by (try dsimp only); exact (Fr.rf _ _)))))
set_option maxRecDepth 20000 in
set_option maxHeartbeats 200000 in
theorem ux_cput_0 (s : SG) (form : Int32) (i : Int32) (v : Int32)  : UP m_X6_put 0 (m_ent 6 [.ref 0, .int 0, .int form, .int i, .int v]) [] s (Qb (F_cput_0 s form i v)) := by
  refine UP.stp 2 (i1 := 2) (L1 := [some (.ref 0), some (.int 0), some (.int form), some (.int i), some (.int v), none]) (st1 := [.int 4, .int 0]) (s1 := s) rfl ?_
  refine UP.cI (M1 := m_X6_isBelow) (as := [.int 0, .int 4]) (rest := []) (T := F_isBelow s 0 4) rfl rfl (ux_isBelow s 0 4) ?_
  refine UP.spl (m_cmp .eq (F_isBelow s 0 4) 0) (((-2), s)) (bif m_cmp .ne (F_isBelow s form 3) 0 then (let v8 := F_findingOf_0 s form i; bif m_cmp .eq v8 0 then (let z11 := F_ckeep_0 s i v; (1, z11)) else (let z12 := F_find s v8; z12)) else (((-2), s))) (by first | (dsimp only [F_cput_0]; done) | (dsimp only; done) | rfl) (fun cc => ?_) (fun cc => ?_)
  · skip
    refine UP.ifT rfl cc ?_
    refine UP.stp 1 (i1 := 9) (L1 := [some (.ref 0), some (.int 0), some (.int form), some (.int i), some (.int v), none]) (st1 := [.int (-2)]) (s1 := s) rfl ?_
    exact UP.ret (r := some (.int (-2))) rfl ⟨by first | (dsimp only [F_cput_0]; done) | (dsimp only; done) | rfl, by first | (dsimp only [F_cput_0]; done) | (dsimp only; done) | rfl⟩
  · skip
    refine UP.ifF rfl cc ?_
    refine UP.stp 2 (i1 := 6) (L1 := [some (.ref 0), some (.int 0), some (.int form), some (.int i), some (.int v), none]) (st1 := [.int 3, .int form]) (s1 := s) rfl ?_
    refine UP.cI (M1 := m_X6_isBelow) (as := [.int form, .int 3]) (rest := []) (T := F_isBelow s form 3) rfl rfl (ux_isBelow s form 3) ?_
    refine UP.spl (m_cmp .ne (F_isBelow s form 3) 0) (let v8 := F_findingOf_0 s form i; bif m_cmp .eq v8 0 then (let z11 := F_ckeep_0 s i v; (1, z11)) else (let z12 := F_find s v8; z12)) (((-2), s)) (by first | (dsimp only [F_cput_0]; done) | (dsimp only; done) | rfl) (fun cc => ?_) (fun cc => ?_)
    · skip
      refine UP.ifT rfl cc ?_
      refine UP.stp 3 (i1 := 13) (L1 := [some (.ref 0), some (.int 0), some (.int form), some (.int i), some (.int v), none]) (st1 := [.int 0, .ref 9]) (s1 := s) rfl ?_
      refine UP.aald (e := 0) (r := 115) rfl rfl (by omega) rfl ?_
      refine UP.stp 2 (i1 := 16) (L1 := [some (.ref 0), some (.int 0), some (.int form), some (.int i), some (.int v), none]) (st1 := [.int i, .int form, .ref 115]) (s1 := s) rfl ?_
      refine UP.cI (M1 := m_X3_findingOf) (as := [.ref 115, .int form, .int i]) (rest := []) (T := F_findingOf_0 s form i) rfl rfl (ux_findingOf_0 s form i) ?_
      refine nm (G := fun v8 => UP m_X6_put 17 [some (.ref 0), some (.int 0), some (.int form), some (.int i), some (.int v), none] [.int v8] s (Qb (let v8 := F_findingOf_0 s form i; bif m_cmp .eq v8 0 then (let z11 := F_ckeep_0 s i v; (1, z11)) else (let z12 := F_find s v8; z12)))) (F_findingOf_0 s form i) (fun v8 e8 => ?_)
      refine UP.stp 2 (i1 := 19) (L1 := [some (.ref 0), some (.int 0), some (.int form), some (.int i), some (.int v), some (.int v8)]) (st1 := [.int v8]) (s1 := s) rfl ?_
      refine UP.spl (m_cmp .eq v8 0) (let z11 := F_ckeep_0 s i v; (1, z11)) (let z12 := F_find s v8; z12) (by subst e8; first | (dsimp only [F_cput_0]; done) | (dsimp only; done) | rfl) (fun cc => ?_) (fun cc => ?_)
      · skip
        refine UP.ifT rfl cc ?_
        refine UP.stp 3 (i1 := 27) (L1 := [some (.ref 0), some (.int 0), some (.int form), some (.int i), some (.int v), some (.int v8)]) (st1 := [.int 0, .ref 9]) (s1 := s) rfl ?_
        refine UP.aald (e := 0) (r := 115) rfl rfl (by omega) rfl ?_
        refine UP.stp 2 (i1 := 30) (L1 := [some (.ref 0), some (.int 0), some (.int form), some (.int i), some (.int v), some (.int v8)]) (st1 := [.int v, .int i, .ref 115]) (s1 := s) rfl ?_
        refine UP.cV (M1 := m_X3_keep) (as := [.ref 115, .int i, .int v]) (rest := []) (T := F_ckeep_0 s i v) rfl rfl (ux_ckeep_0 s i v) (fun z11 e11 => ?_)
        refine UP.stp 1 (i1 := 32) (L1 := [some (.ref 0), some (.int 0), some (.int form), some (.int i), some (.int v), some (.int v8)]) (st1 := [.int 1]) (s1 := z11) rfl ?_
        exact UP.ret (r := some (.int 1)) rfl ⟨by subst e11 e8; first | (dsimp only [F_cput_0]; done) | (dsimp only; done) | rfl, by subst e11 e8; first | (dsimp only [F_cput_0]; done) | (dsimp only; done) | rfl⟩
      · skip
        refine UP.ifF rfl cc ?_
        refine UP.stp 2 (i1 := 22) (L1 := [some (.ref 0), some (.int 0), some (.int form), some (.int i), some (.int v), some (.int v8)]) (st1 := [.int v8, .ref 0]) (s1 := s) rfl ?_
        refine UP.cB (M1 := m_X6_find) (as := [.ref 0, .int v8]) (rest := []) (T := F_find s v8) rfl rfl (ux_find s v8) (fun z12 e12 => ?_)
        exact UP.ret (r := some (.int z12.1)) rfl ⟨by subst e12 e8; first | (dsimp only [F_cput_0]; done) | (dsimp only; done) | rfl, by subst e12 e8; first | (dsimp only [F_cput_0]; done) | (dsimp only; done) | rfl⟩
    · skip
      refine UP.ifF rfl cc ?_
      refine UP.stp 1 (i1 := 9) (L1 := [some (.ref 0), some (.int 0), some (.int form), some (.int i), some (.int v), none]) (st1 := [.int (-2)]) (s1 := s) rfl ?_
      exact UP.ret (r := some (.int (-2))) rfl ⟨by first | (dsimp only [F_cput_0]; done) | (dsimp only; done) | rfl, by first | (dsimp only [F_cput_0]; done) | (dsimp only; done) | rfl⟩
end
section
def W_cget_0 : List (Nat × Nat × Option Nat) := [(115, 115, none), (116, 116, none), (0, 0, some 4)]
def F_cget_0 (s : SG) (form : Int32) (i : Int32) : Int32 × SG := bif m_cmp .eq (F_isBelow s 0 4) 0 then (((-2147483648), s)) else (bif m_cmp .ne (F_isBelow s form 3) 0 then (let v8 := F_findingOf_0 s form i; bif m_cmp .eq v8 0 then ((s 116 i.toNatClampNeg, s)) else (((-2147483648), (uset s 0 4 v8)))) else (((-2147483648), s)))
set_option maxRecDepth 20000 in
set_option maxHeartbeats 200000 in
theorem fr_cget_0 (s : SG) (form : Int32) (i : Int32)  : Fr W_cget_0 s (F_cget_0 s form i).2 := by dsimp only [F_cget_0]; exact (Fr.bifp (b := m_cmp .eq (F_isBelow s 0 4) 0) (x := ((-2147483648), s)) (y := bif m_cmp .ne (F_isBelow s form 3) 0 then (let v8 := F_findingOf_0 s form i; bif m_cmp .eq v8 0 then ((s 116 i.toNatClampNeg, s)) else (((-2147483648), (uset s 0 4 v8)))) else (((-2147483648), s))) (fun x : Int32 × SG => x.2) (by (try dsimp only); exact (Fr.rf _ _)) (by (try dsimp only); exact (Fr.bifp (b := m_cmp .ne (F_isBelow s form 3) 0) (x := let v8 := F_findingOf_0 s form i; bif m_cmp .eq v8 0 then ((s 116 i.toNatClampNeg, s)) else (((-2147483648), (uset s 0 4 v8)))) (y := ((-2147483648), s)) (fun x : Int32 × SG => x.2) (by (try dsimp only); exact (let v8 : Int32 := F_findingOf_0 s form i; (Fr.bifp (b := m_cmp .eq v8 0) (x := (s 116 i.toNatClampNeg, s)) (y := ((-2147483648), (uset s 0 4 v8))) (fun x : Int32 × SG => x.2) (by (try dsimp only); exact (Fr.rf _ _)) (by (try dsimp only); exact (Fr.uset (s1 := s) (a := 0) (j := 4) (x := v8) (by rfl) (Fr.rf _ _)))))) (by (try dsimp only); exact (Fr.rf _ _)))))
set_option maxRecDepth 20000 in
set_option maxHeartbeats 200000 in
theorem ux_cget_0 (s : SG) (form : Int32) (i : Int32)  : UP m_X6_get 0 (m_ent 5 [.ref 0, .int 0, .int form, .int i]) [] s (Qb (F_cget_0 s form i)) := by
  refine UP.stp 2 (i1 := 2) (L1 := [some (.ref 0), some (.int 0), some (.int form), some (.int i), none]) (st1 := [.int 4, .int 0]) (s1 := s) rfl ?_
  refine UP.cI (M1 := m_X6_isBelow) (as := [.int 0, .int 4]) (rest := []) (T := F_isBelow s 0 4) rfl rfl (ux_isBelow s 0 4) ?_
  refine UP.spl (m_cmp .eq (F_isBelow s 0 4) 0) (((-2147483648), s)) (bif m_cmp .ne (F_isBelow s form 3) 0 then (let v8 := F_findingOf_0 s form i; bif m_cmp .eq v8 0 then ((s 116 i.toNatClampNeg, s)) else (((-2147483648), (uset s 0 4 v8)))) else (((-2147483648), s))) (by first | (dsimp only [F_cget_0]; done) | (dsimp only; done) | rfl) (fun cc => ?_) (fun cc => ?_)
  · skip
    refine UP.ifT rfl cc ?_
    refine UP.stp 1 (i1 := 9) (L1 := [some (.ref 0), some (.int 0), some (.int form), some (.int i), none]) (st1 := [.int (-2147483648)]) (s1 := s) rfl ?_
    exact UP.ret (r := some (.int (-2147483648))) rfl ⟨by first | (dsimp only [F_cget_0]; done) | (dsimp only; done) | rfl, by first | (dsimp only [F_cget_0]; done) | (dsimp only; done) | rfl⟩
  · skip
    refine UP.ifF rfl cc ?_
    refine UP.stp 2 (i1 := 6) (L1 := [some (.ref 0), some (.int 0), some (.int form), some (.int i), none]) (st1 := [.int 3, .int form]) (s1 := s) rfl ?_
    refine UP.cI (M1 := m_X6_isBelow) (as := [.int form, .int 3]) (rest := []) (T := F_isBelow s form 3) rfl rfl (ux_isBelow s form 3) ?_
    refine UP.spl (m_cmp .ne (F_isBelow s form 3) 0) (let v8 := F_findingOf_0 s form i; bif m_cmp .eq v8 0 then ((s 116 i.toNatClampNeg, s)) else (((-2147483648), (uset s 0 4 v8)))) (((-2147483648), s)) (by first | (dsimp only [F_cget_0]; done) | (dsimp only; done) | rfl) (fun cc => ?_) (fun cc => ?_)
    · skip
      refine UP.ifT rfl cc ?_
      refine UP.stp 3 (i1 := 13) (L1 := [some (.ref 0), some (.int 0), some (.int form), some (.int i), none]) (st1 := [.int 0, .ref 9]) (s1 := s) rfl ?_
      refine UP.aald (e := 0) (r := 115) rfl rfl (by omega) rfl ?_
      refine UP.stp 2 (i1 := 16) (L1 := [some (.ref 0), some (.int 0), some (.int form), some (.int i), none]) (st1 := [.int i, .int form, .ref 115]) (s1 := s) rfl ?_
      refine UP.cI (M1 := m_X3_findingOf) (as := [.ref 115, .int form, .int i]) (rest := []) (T := F_findingOf_0 s form i) rfl rfl (ux_findingOf_0 s form i) ?_
      refine nm (G := fun v8 => UP m_X6_get 17 [some (.ref 0), some (.int 0), some (.int form), some (.int i), none] [.int v8] s (Qb (let v8 := F_findingOf_0 s form i; bif m_cmp .eq v8 0 then ((s 116 i.toNatClampNeg, s)) else (((-2147483648), (uset s 0 4 v8)))))) (F_findingOf_0 s form i) (fun v8 e8 => ?_)
      refine UP.stp 2 (i1 := 19) (L1 := [some (.ref 0), some (.int 0), some (.int form), some (.int i), some (.int v8)]) (st1 := [.int v8]) (s1 := s) rfl ?_
      refine UP.spl (m_cmp .eq v8 0) ((s 116 i.toNatClampNeg, s)) (((-2147483648), (uset s 0 4 v8))) (by subst e8; first | (dsimp only [F_cget_0]; done) | (dsimp only; done) | rfl) (fun cc => ?_) (fun cc => ?_)
      · skip
        refine UP.ifT rfl cc ?_
        refine UP.stp 3 (i1 := 28) (L1 := [some (.ref 0), some (.int 0), some (.int form), some (.int i), some (.int v8)]) (st1 := [.int 0, .ref 9]) (s1 := s) rfl ?_
        refine UP.aald (e := 0) (r := 115) rfl rfl (by omega) rfl ?_
        refine UP.stp 3 (i1 := 32) (L1 := [some (.ref 0), some (.int 0), some (.int form), some (.int i), some (.int v8)]) (st1 := [.int (s 116 i.toNatClampNeg)]) (s1 := s) rfl ?_
        exact UP.ret (r := some (.int (s 116 i.toNatClampNeg))) rfl ⟨by subst e8; first | (dsimp only [F_cget_0]; done) | (dsimp only; done) | rfl, by subst e8; first | (dsimp only [F_cget_0]; done) | (dsimp only; done) | rfl⟩
      · skip
        refine UP.ifF rfl cc ?_
        refine UP.stp 4 (i1 := 24) (L1 := [some (.ref 0), some (.int 0), some (.int form), some (.int i), some (.int v8)]) (st1 := [.int (-2147483648)]) (s1 := (uset s 0 4 v8)) rfl ?_
        exact UP.ret (r := some (.int (-2147483648))) rfl ⟨by subst e8; first | (dsimp only [F_cget_0]; done) | (dsimp only; done) | rfl, by subst e8; first | (dsimp only [F_cget_0]; done) | (dsimp only; done) | rfl⟩
    · skip
      refine UP.ifF rfl cc ?_
      refine UP.stp 1 (i1 := 9) (L1 := [some (.ref 0), some (.int 0), some (.int form), some (.int i), none]) (st1 := [.int (-2147483648)]) (s1 := s) rfl ?_
      exact UP.ret (r := some (.int (-2147483648))) rfl ⟨by first | (dsimp only [F_cget_0]; done) | (dsimp only; done) | rfl, by first | (dsimp only [F_cget_0]; done) | (dsimp only; done) | rfl⟩
end
section
def W_cwrite_0 : List (Nat × Nat × Option Nat) := [(16, 20, none), (22, 45, none), (46, 52, none), (15, 15, some 8), (59, 63, none), (65, 88, none), (89, 95, none), (58, 58, some 8), (53, 57, none), (96, 108, none), (0, 0, some 12), (0, 0, some 13), (115, 115, none), (116, 116, none), (0, 0, some 4)]
def B_cwrite_0_32 (what : Int32) (i11 : Nat) (a11 : SG) : SG := let v12 := bif m_cmp .ne what 0 then a11 17 i11 else a11 16 i11; let z13 := F_ckeep_0 a11 (Int32.ofNat i11) v12; z13
set_option maxRecDepth 20000 in
set_option maxHeartbeats 200000 in
theorem fr_B_cwrite_0_32 (what : Int32) (i11 : Nat) (a11 : SG)   : Fr W_cwrite_0 a11 ((B_cwrite_0_32 what) i11 a11) := by dsimp only [B_cwrite_0_32]; exact (let v12 : Int32 := bif m_cmp .ne what 0 then a11 17 i11 else a11 16 i11; (Fr.tr (s1 := a11) (Fr.rf _ _) (Fr.wk (W2 := W_cwrite_0) (fr_ckeep_0 a11 (Int32.ofNat i11) v12) (by rfl))))
def F_cwrite_0 (s : SG) (what : Int32) : Int32 × SG := bif m_cmp .eq (F_isBelow s what 2) 0 then (((-2), s)) else (bif m_cmp .ne (F_isBelow s 0 4) 0 then (bif m_cmp .eq (s 115 1) 0 then (let z9 := F_toldTrip s ; let v10 := (if 24 < (z9 115 3) then 24 else (z9 115 3)); let z11 := itr (B_cwrite_0_32 what) 0 ((v10).toNatClampNeg) z9; (v10, z11)) else (let z14 := F_find s 1; z14)) else (((-2), s)))
set_option maxRecDepth 20000 in
set_option maxHeartbeats 200000 in
theorem fr_cwrite_0 (s : SG) (what : Int32)  : Fr W_cwrite_0 s (F_cwrite_0 s what).2 := by dsimp only [F_cwrite_0]; exact (Fr.bifp (b := m_cmp .eq (F_isBelow s what 2) 0) (x := ((-2), s)) (y := bif m_cmp .ne (F_isBelow s 0 4) 0 then (bif m_cmp .eq (s 115 1) 0 then (let z9 := F_toldTrip s ; let v10 := (if 24 < (z9 115 3) then 24 else (z9 115 3)); let z11 := itr (B_cwrite_0_32 what) 0 ((v10).toNatClampNeg) z9; (v10, z11)) else (let z14 := F_find s 1; z14)) else (((-2), s))) (fun x : Int32 × SG => x.2) (by (try dsimp only); exact (Fr.rf _ _)) (by (try dsimp only); exact (Fr.bifp (b := m_cmp .ne (F_isBelow s 0 4) 0) (x := bif m_cmp .eq (s 115 1) 0 then (let z9 := F_toldTrip s ; let v10 := (if 24 < (z9 115 3) then 24 else (z9 115 3)); let z11 := itr (B_cwrite_0_32 what) 0 ((v10).toNatClampNeg) z9; (v10, z11)) else (let z14 := F_find s 1; z14)) (y := ((-2), s)) (fun x : Int32 × SG => x.2) (by (try dsimp only); exact (Fr.bifp (b := m_cmp .eq (s 115 1) 0) (x := let z9 := F_toldTrip s ; let v10 := (if 24 < (z9 115 3) then 24 else (z9 115 3)); let z11 := itr (B_cwrite_0_32 what) 0 ((v10).toNatClampNeg) z9; (v10, z11)) (y := let z14 := F_find s 1; z14) (fun x : Int32 × SG => x.2) (by (try dsimp only); exact (let z9 : SG := F_toldTrip s ; (let v10 : Int32 := (if 24 < (z9 115 3) then 24 else (z9 115 3)); (Fr.itr (W := W_cwrite_0) (m := (fun x : SG => x)) (f := (B_cwrite_0_32 what)) (fun ii aa => Fr.wk (W2 := W_cwrite_0) (fr_B_cwrite_0_32 what ii aa ) (by rfl)) ((v10).toNatClampNeg) 0 z9 (Fr.tr (s1 := s) (Fr.rf _ _) (Fr.wk (W2 := W_cwrite_0) (fr_toldTrip s ) (by rfl))))))) (by (try dsimp only); exact (Fr.tr (s1 := s) (Fr.rf _ _) (Fr.wk (W2 := W_cwrite_0) (fr_find s 1) (by rfl)))))) (by (try dsimp only); exact (Fr.rf _ _)))))
set_option maxRecDepth 20000 in
set_option maxHeartbeats 200000 in
theorem ux_cwrite_0 (s : SG) (what : Int32)  : UP m_X6_write 0 (m_ent 7 [.ref 0, .int what, .int 0]) [] s (Qb (F_cwrite_0 s what)) := by
  refine UP.stp 2 (i1 := 2) (L1 := [some (.ref 0), some (.int what), some (.int 0), none, none, none, none]) (st1 := [.int 2, .int what]) (s1 := s) rfl ?_
  refine UP.cI (M1 := m_X6_isBelow) (as := [.int what, .int 2]) (rest := []) (T := F_isBelow s what 2) rfl rfl (ux_isBelow s what 2) ?_
  refine UP.spl (m_cmp .eq (F_isBelow s what 2) 0) (((-2), s)) (bif m_cmp .ne (F_isBelow s 0 4) 0 then (bif m_cmp .eq (s 115 1) 0 then (let z9 := F_toldTrip s ; let v10 := (if 24 < (z9 115 3) then 24 else (z9 115 3)); let z11 := itr (B_cwrite_0_32 what) 0 ((v10).toNatClampNeg) z9; (v10, z11)) else (let z14 := F_find s 1; z14)) else (((-2), s))) (by first | (dsimp only [F_cwrite_0]; done) | (dsimp only; done) | rfl) (fun cc => ?_) (fun cc => ?_)
  · skip
    refine UP.ifT rfl cc ?_
    refine UP.stp 1 (i1 := 9) (L1 := [some (.ref 0), some (.int what), some (.int 0), none, none, none, none]) (st1 := [.int (-2)]) (s1 := s) rfl ?_
    exact UP.ret (r := some (.int (-2))) rfl ⟨by first | (dsimp only [F_cwrite_0]; done) | (dsimp only; done) | rfl, by first | (dsimp only [F_cwrite_0]; done) | (dsimp only; done) | rfl⟩
  · skip
    refine UP.ifF rfl cc ?_
    refine UP.stp 2 (i1 := 6) (L1 := [some (.ref 0), some (.int what), some (.int 0), none, none, none, none]) (st1 := [.int 4, .int 0]) (s1 := s) rfl ?_
    refine UP.cI (M1 := m_X6_isBelow) (as := [.int 0, .int 4]) (rest := []) (T := F_isBelow s 0 4) rfl rfl (ux_isBelow s 0 4) ?_
    refine UP.spl (m_cmp .ne (F_isBelow s 0 4) 0) (bif m_cmp .eq (s 115 1) 0 then (let z9 := F_toldTrip s ; let v10 := (if 24 < (z9 115 3) then 24 else (z9 115 3)); let z11 := itr (B_cwrite_0_32 what) 0 ((v10).toNatClampNeg) z9; (v10, z11)) else (let z14 := F_find s 1; z14)) (((-2), s)) (by first | (dsimp only [F_cwrite_0]; done) | (dsimp only; done) | rfl) (fun cc => ?_) (fun cc => ?_)
    · skip
      refine UP.ifT rfl cc ?_
      refine UP.stp 3 (i1 := 13) (L1 := [some (.ref 0), some (.int what), some (.int 0), none, none, none, none]) (st1 := [.int 0, .ref 9]) (s1 := s) rfl ?_
      refine UP.aald (e := 0) (r := 115) rfl rfl (by omega) rfl ?_
      refine UP.stp 3 (i1 := 17) (L1 := [some (.ref 0), some (.int what), some (.int 0), some (.ref 115), none, none, none]) (st1 := [.int (s 115 1)]) (s1 := s) rfl ?_
      refine UP.spl (m_cmp .eq (s 115 1) 0) (let z9 := F_toldTrip s ; let v10 := (if 24 < (z9 115 3) then 24 else (z9 115 3)); let z11 := itr (B_cwrite_0_32 what) 0 ((v10).toNatClampNeg) z9; (v10, z11)) (let z14 := F_find s 1; z14) (by first | (dsimp only [F_cwrite_0]; done) | (dsimp only; done) | rfl) (fun cc => ?_) (fun cc => ?_)
      · skip
        refine UP.ifT rfl cc ?_
        refine UP.stp 1 (i1 := 23) (L1 := [some (.ref 0), some (.int what), some (.int 0), some (.ref 115), none, none, none]) (st1 := [.ref 0]) (s1 := s) rfl ?_
        refine UP.cR (M1 := m_X6_toldTrip) (as := [.ref 0]) (rest := []) (T := F_toldTrip s ) (a := 15) rfl rfl (ux_toldTrip s ) (fun z9 e9 => ?_)
        refine UP.stp 5 (i1 := 29) (L1 := [some (.ref 0), some (.int what), some (.int 0), some (.ref 115), some (.ref 15), none, none]) (st1 := [.int (if 24 < (z9 115 3) then 24 else (z9 115 3))]) (s1 := z9) rfl ?_
        refine nm (G := fun v10 => UP m_X6_write 29 [some (.ref 0), some (.int what), some (.int 0), some (.ref 115), some (.ref 15), none, none] [.int v10] z9 (Qb (let z9 := F_toldTrip s ; let v10 := (if 24 < (z9 115 3) then 24 else (z9 115 3)); let z11 := itr (B_cwrite_0_32 what) 0 ((v10).toNatClampNeg) z9; (v10, z11)))) (if 24 < (z9 115 3) then 24 else (z9 115 3)) (fun v10 e10 => ?_)
        refine UP.stp 3 (i1 := 32) (L1 := [some (.ref 0), some (.int what), some (.int 0), some (.ref 115), some (.ref 15), some (.int v10), some (.int 0)]) (st1 := []) (s1 := z9) rfl ?_
        refine lp (fun (i11 : Nat) (a11 : SG) => ∀ (u11_0 : Option Value) (u11_2 : Option Value), UP m_X6_write 32 [u11_0, some (.int what), u11_2, some (.ref 115), some (.ref 15), some (.int v10), some (.int (Int32.ofNat i11))] [] a11 (Qb (let z9 := F_toldTrip s ; let v10 := (if 24 < (z9 115 3) then 24 else (z9 115 3)); let z11 := itr (B_cwrite_0_32 what) 0 ((v10).toNatClampNeg) z9; (v10, z11)))) (fun (_ : Nat) (a11 : SG) => Fr W_cwrite_0 z9 a11) (B_cwrite_0_32 what) ((v10).toNatClampNeg) (fun i11 a11 hi11 g11 => g11.tr (fr_B_cwrite_0_32 what i11 a11 )) (fun i11 a11 hi11 g11 kk => ?_) ((v10).toNatClampNeg) (0) z9 (by  omega) (Fr.rf _ _) (fun z11 e11 g11 => ?_) (some (.ref 0)) (some (.int 0))
        · skip
          intro u11_0 u11_2
          have hbi11 := cl_lt (v10)
          refine UP.stp 2 (i1 := 34) (L1 := [u11_0, some (.int what), u11_2, some (.ref 115), some (.ref 15), some (.int v10), some (.int (Int32.ofNat i11))]) (st1 := [.int v10, .int (Int32.ofNat i11)]) (s1 := a11) rfl ?_
          refine UP.icF rfl (ge_F hi11) ?_
          refine UP.stp 3 (i1 := 38) (L1 := [u11_0, some (.int what), u11_2, some (.ref 115), some (.ref 15), some (.int v10), some (.int (Int32.ofNat i11))]) (st1 := [.int what, .int (Int32.ofNat i11), .ref 115]) (s1 := a11) rfl ?_
          refine mrg (m_cmp .ne what 0) (a11 17 i11) (a11 16 i11) (fun v12 : Int32 => UP m_X6_write 48 [u11_0, some (.int what), u11_2, some (.ref 115), some (.ref 15), some (.int v10), some (.int (Int32.ofNat i11))] [.int v12, .int (Int32.ofNat i11), .ref 115] a11 (Qb (let z9 := F_toldTrip s ; let v10 := (if 24 < (z9 115 3) then 24 else (z9 115 3)); let z11 := itr (B_cwrite_0_32 what) 0 ((v10).toNatClampNeg) z9; (v10, z11)))) (fun cc kk => ?_) (fun cc kk => ?_) (fun v12 e12 => ?_)
          · skip
            refine UP.ifT rfl cc ?_
            refine UP.stp 3 (i1 := 47) (L1 := [u11_0, some (.int what), u11_2, some (.ref 115), some (.ref 15), some (.int v10), some (.int (Int32.ofNat i11))]) (st1 := [.int (Int32.ofNat i11), .ref 17, .int (Int32.ofNat i11), .ref 115]) (s1 := a11) rfl ?_
            refine UP.ald (e := i11) rfl rfl (by omega) ?_
            show UP m_X6_write 48 [u11_0, some (.int what), u11_2, some (.ref 115), some (.ref 15), some (.int v10), some (.int (Int32.ofNat i11))] [.int (a11 17 i11), .int (Int32.ofNat i11), .ref 115] a11 (Qb (let z9 := F_toldTrip s ; let v10 := (if 24 < (z9 115 3) then 24 else (z9 115 3)); let z11 := itr (B_cwrite_0_32 what) 0 ((v10).toNatClampNeg) z9; (v10, z11)))
            exact kk
          · skip
            refine UP.ifF rfl cc ?_
            refine UP.stp 3 (i1 := 42) (L1 := [u11_0, some (.int what), u11_2, some (.ref 115), some (.ref 15), some (.int v10), some (.int (Int32.ofNat i11))]) (st1 := [.int (Int32.ofNat i11), .ref 16, .int (Int32.ofNat i11), .ref 115]) (s1 := a11) rfl ?_
            refine UP.ald (e := i11) rfl rfl (by omega) ?_
            show UP m_X6_write 43 [u11_0, some (.int what), u11_2, some (.ref 115), some (.ref 15), some (.int v10), some (.int (Int32.ofNat i11))] [.int (a11 16 i11), .int (Int32.ofNat i11), .ref 115] a11 (Qb (let z9 := F_toldTrip s ; let v10 := (if 24 < (z9 115 3) then 24 else (z9 115 3)); let z11 := itr (B_cwrite_0_32 what) 0 ((v10).toNatClampNeg) z9; (v10, z11)))
            refine UP.stp 1 (i1 := 48) (L1 := [u11_0, some (.int what), u11_2, some (.ref 115), some (.ref 15), some (.int v10), some (.int (Int32.ofNat i11))]) (st1 := [.int (a11 16 i11), .int (Int32.ofNat i11), .ref 115]) (s1 := a11) rfl ?_
            exact kk
          refine UP.cV (M1 := m_X3_keep) (as := [.ref 115, .int (Int32.ofNat i11), .int v12]) (rest := []) (T := F_ckeep_0 a11 (Int32.ofNat i11) v12) rfl rfl (ux_ckeep_0 a11 (Int32.ofNat i11) v12) (fun z13 e13 => ?_)
          refine UP.stp 2 (i1 := 32) (L1 := [u11_0, some (.int what), u11_2, some (.ref 115), some (.ref 15), some (.int v10), some (.int ((Int32.ofNat i11) + 1))]) (st1 := []) (s1 := z13) rfl ?_
          subst e13 e12
          rw [ofn_s]
          try dsimp only [B_cwrite_0_32] at kk
          exact kk _ _
        intro u11_0 u11_2
        refine UP.stp 2 (i1 := 34) (L1 := [u11_0, some (.int what), u11_2, some (.ref 115), some (.ref 15), some (.int v10), some (.int (Int32.ofNat ((v10).toNatClampNeg)))]) (st1 := [.int v10, .int (Int32.ofNat ((v10).toNatClampNeg))]) (s1 := z11) rfl ?_
        refine UP.icT rfl (ge_T _) ?_
        refine UP.stp 1 (i1 := 52) (L1 := [u11_0, some (.int what), u11_2, some (.ref 115), some (.ref 15), some (.int v10), some (.int (Int32.ofNat ((v10).toNatClampNeg)))]) (st1 := [.int v10]) (s1 := z11) rfl ?_
        exact UP.ret (r := some (.int v10)) rfl ⟨by subst e11 e10 e9; first | (dsimp only [F_cwrite_0]; done) | (dsimp only; done) | rfl, by subst e11 e10 e9; first | (dsimp only [F_cwrite_0]; done) | (dsimp only; done) | rfl⟩
      · skip
        refine UP.ifF rfl cc ?_
        refine UP.stp 2 (i1 := 20) (L1 := [some (.ref 0), some (.int what), some (.int 0), some (.ref 115), none, none, none]) (st1 := [.int 1, .ref 0]) (s1 := s) rfl ?_
        refine UP.cB (M1 := m_X6_find) (as := [.ref 0, .int 1]) (rest := []) (T := F_find s 1) rfl rfl (ux_find s 1) (fun z14 e14 => ?_)
        exact UP.ret (r := some (.int z14.1)) rfl ⟨by subst e14; first | (dsimp only [F_cwrite_0]; done) | (dsimp only; done) | rfl, by subst e14; first | (dsimp only [F_cwrite_0]; done) | (dsimp only; done) | rfl⟩
    · skip
      refine UP.ifF rfl cc ?_
      refine UP.stp 1 (i1 := 9) (L1 := [some (.ref 0), some (.int what), some (.int 0), none, none, none, none]) (st1 := [.int (-2)]) (s1 := s) rfl ?_
      exact UP.ret (r := some (.int (-2))) rfl ⟨by first | (dsimp only [F_cwrite_0]; done) | (dsimp only; done) | rfl, by first | (dsimp only [F_cwrite_0]; done) | (dsimp only; done) | rfl⟩
end
section
def W_hasRange_0 : List (Nat × Nat × Option Nat) := []
def F_hasRange_0 (s : SG) (f : Int32) (m : Int32) : Int32 := let v3 := bif m_cmp .lt f 0 then (0 : Int32) else (bif m_cmp .lt m 0 then (0 : Int32) else (bif m_cmp .gt f ((s 115 3) - m) then (0 : Int32) else (1 : Int32))); v3
set_option maxRecDepth 20000 in
set_option maxHeartbeats 200000 in
theorem ux_hasRange_0 (s : SG) (f : Int32) (m : Int32)  : UP m_X3_hasRange 0 (m_ent 3 [.ref 115, .int f, .int m]) [] s (Qi s (F_hasRange_0 s f m)) := by
  refine UP.stp 1 (i1 := 1) (L1 := [some (.ref 115), some (.int f), some (.int m)]) (st1 := [.int f]) (s1 := s) rfl ?_
  refine mrg (m_cmp .lt f 0) (0 : Int32) (bif m_cmp .lt m 0 then (0 : Int32) else (bif m_cmp .gt f ((s 115 3) - m) then (0 : Int32) else (1 : Int32))) (fun v3 : Int32 => UP m_X3_hasRange 13 [some (.ref 115), some (.int f), some (.int m)] [.int v3] s (Qi s (F_hasRange_0 s f m))) (fun cc kk => ?_) (fun cc kk => ?_) (fun v3 e3 => ?_)
  · skip
    refine UP.ifT rfl cc ?_
    refine UP.stp 1 (i1 := 13) (L1 := [some (.ref 115), some (.int f), some (.int m)]) (st1 := [.int 0]) (s1 := s) rfl ?_
    exact kk
  · skip
    refine UP.ifF rfl cc ?_
    refine UP.stp 1 (i1 := 3) (L1 := [some (.ref 115), some (.int f), some (.int m)]) (st1 := [.int m]) (s1 := s) rfl ?_
    refine mrg (m_cmp .lt m 0) (0 : Int32) (bif m_cmp .gt f ((s 115 3) - m) then (0 : Int32) else (1 : Int32)) (fun v2 : Int32 => UP m_X3_hasRange 13 [some (.ref 115), some (.int f), some (.int m)] [.int v2] s (Qi s (F_hasRange_0 s f m))) (fun cc kk => ?_) (fun cc kk => ?_) (fun v2 e2 => ?_)
    · skip
      refine UP.ifT rfl cc ?_
      refine UP.stp 1 (i1 := 13) (L1 := [some (.ref 115), some (.int f), some (.int m)]) (st1 := [.int 0]) (s1 := s) rfl ?_
      exact kk
    · skip
      refine UP.ifF rfl cc ?_
      refine UP.stp 5 (i1 := 9) (L1 := [some (.ref 115), some (.int f), some (.int m)]) (st1 := [.int ((s 115 3) - m), .int f]) (s1 := s) rfl ?_
      refine mrg (m_cmp .gt f ((s 115 3) - m)) (0 : Int32) (1 : Int32) (fun v1 : Int32 => UP m_X3_hasRange 13 [some (.ref 115), some (.int f), some (.int m)] [.int v1] s (Qi s (F_hasRange_0 s f m))) (fun cc kk => ?_) (fun cc kk => ?_) (fun v1 e1 => ?_)
      · skip
        refine UP.icT rfl cc ?_
        refine UP.stp 1 (i1 := 13) (L1 := [some (.ref 115), some (.int f), some (.int m)]) (st1 := [.int 0]) (s1 := s) rfl ?_
        exact kk
      · skip
        refine UP.icF rfl cc ?_
        refine UP.stp 2 (i1 := 13) (L1 := [some (.ref 115), some (.int f), some (.int m)]) (st1 := [.int 1]) (s1 := s) rfl ?_
        exact kk
      subst e1
      exact kk
    subst e2
    exact kk
  exact UP.ret (r := some (.int v3)) rfl ⟨by subst e3; first | (dsimp only [F_hasRange_0]; done) | (dsimp only; done) | rfl, by subst e3; first | (dsimp only [F_hasRange_0]; done) | (dsimp only; done) | rfl⟩
def W_begin_1 : List (Nat × Nat × Option Nat) := [(117, 117, none), (118, 118, none), (0, 0, some 4)]
def F_begin_1 (s : SG) (f : Int32) (n : Int32) : SG := let z1 := fil s 118 60 0; (uset (uset (uset z1 117 1 0) 117 2 f) 117 3 n)
set_option maxRecDepth 20000 in
set_option maxHeartbeats 200000 in
theorem fr_begin_1 (s : SG) (f : Int32) (n : Int32)  : Fr W_begin_1 s (F_begin_1 s f n) := by dsimp only [F_begin_1]; exact (let z1 : SG := fil s 118 60 0; (Fr.uset (s1 := (uset (uset z1 117 1 0) 117 2 f)) (a := 117) (j := 3) (x := n) (by rfl) (Fr.uset (s1 := (uset z1 117 1 0)) (a := 117) (j := 2) (x := f) (by rfl) (Fr.uset (s1 := z1) (a := 117) (j := 1) (x := 0) (by rfl) (Fr.fil (by rfl) (Fr.rf _ _))))))
set_option maxRecDepth 20000 in
set_option maxHeartbeats 200000 in
theorem ux_begin_1 (s : SG) (f : Int32) (n : Int32)  : UP m_X3_begin 0 (m_ent 3 [.ref 117, .int f, .int n]) [] s (Qv (F_begin_1 s f n)) := by
  refine UP.stp 3 (i1 := 3) (L1 := [some (.ref 117), some (.int f), some (.int n)]) (st1 := [.int 0, .ref 118]) (s1 := s) rfl ?_
  refine UP.cV (M1 := m_J7_fill_53178) (as := [.ref 118, .int 0]) (rest := []) (T := fil s 118 60 0) rfl rfl (ux_fill s 118 0 60 rfl (by decide)) (fun z1 e1 => ?_)
  refine UP.stp 9 (i1 := 13) (L1 := [some (.ref 117), some (.int f), some (.int n)]) (st1 := []) (s1 := (uset (uset (uset z1 117 1 0) 117 2 f) 117 3 n)) rfl ?_
  exact UP.ret (r := none) rfl ⟨by subst e1; first | (dsimp only [F_begin_1]; done) | (dsimp only; done) | rfl, by subst e1; first | (dsimp only [F_begin_1]; done) | (dsimp only; done) | rfl⟩
def W_findingOf_1 : List (Nat × Nat × Option Nat) := []
def F_findingOf_1 (s : SG) (f : Int32) (i : Int32) : Int32 := bif m_cmp .eq (s 117 1) 0 then (bif m_cmp .eq (s 117 2) f then (let v6 := bif m_cmp .eq (F_isBelow s i (s 117 3)) 0 then (2 : Int32) else (0 : Int32); v6) else (3)) else (1)
set_option maxRecDepth 20000 in
set_option maxHeartbeats 200000 in
theorem ux_findingOf_1 (s : SG) (f : Int32) (i : Int32)  : UP m_X3_findingOf 0 (m_ent 3 [.ref 117, .int f, .int i]) [] s (Qi s (F_findingOf_1 s f i)) := by
  refine UP.stp 2 (i1 := 2) (L1 := [some (.ref 117), some (.int f), some (.int i)]) (st1 := [.int (s 117 1)]) (s1 := s) rfl ?_
  refine UP.spl (m_cmp .eq (s 117 1) 0) (bif m_cmp .eq (s 117 2) f then (let v6 := bif m_cmp .eq (F_isBelow s i (s 117 3)) 0 then (2 : Int32) else (0 : Int32); v6) else (3)) (1) (by first | (dsimp only [F_findingOf_1]; done) | (dsimp only; done) | rfl) (fun cc => ?_) (fun cc => ?_)
  · skip
    refine UP.ifT rfl cc ?_
    refine UP.stp 3 (i1 := 8) (L1 := [some (.ref 117), some (.int f), some (.int i)]) (st1 := [.int f, .int (s 117 2)]) (s1 := s) rfl ?_
    refine UP.spl (m_cmp .eq (s 117 2) f) (let v6 := bif m_cmp .eq (F_isBelow s i (s 117 3)) 0 then (2 : Int32) else (0 : Int32); v6) (3) (by first | (dsimp only [F_findingOf_1]; done) | (dsimp only; done) | rfl) (fun cc => ?_) (fun cc => ?_)
    · skip
      refine UP.icT rfl cc ?_
      refine UP.stp 3 (i1 := 14) (L1 := [some (.ref 117), some (.int f), some (.int i)]) (st1 := [.int (s 117 3), .int i]) (s1 := s) rfl ?_
      refine UP.cI (M1 := m_X6_isBelow) (as := [.int i, .int (s 117 3)]) (rest := []) (T := F_isBelow s i (s 117 3)) rfl rfl (ux_isBelow s i (s 117 3)) ?_
      refine mrg (m_cmp .eq (F_isBelow s i (s 117 3)) 0) (2 : Int32) (0 : Int32) (fun v6 : Int32 => UP m_X3_findingOf 19 [some (.ref 117), some (.int f), some (.int i)] [.int v6] s (Qi s (let v6 := bif m_cmp .eq (F_isBelow s i (s 117 3)) 0 then (2 : Int32) else (0 : Int32); v6))) (fun cc kk => ?_) (fun cc kk => ?_) (fun v6 e6 => ?_)
      · skip
        refine UP.ifT rfl cc ?_
        refine UP.stp 1 (i1 := 19) (L1 := [some (.ref 117), some (.int f), some (.int i)]) (st1 := [.int 2]) (s1 := s) rfl ?_
        exact kk
      · skip
        refine UP.ifF rfl cc ?_
        refine UP.stp 2 (i1 := 19) (L1 := [some (.ref 117), some (.int f), some (.int i)]) (st1 := [.int 0]) (s1 := s) rfl ?_
        exact kk
      exact UP.ret (r := some (.int v6)) rfl ⟨by subst e6; first | (dsimp only [F_findingOf_1]; done) | (dsimp only; done) | rfl, by subst e6; first | (dsimp only [F_findingOf_1]; done) | (dsimp only; done) | rfl⟩
    · skip
      refine UP.icF rfl cc ?_
      refine UP.stp 1 (i1 := 10) (L1 := [some (.ref 117), some (.int f), some (.int i)]) (st1 := [.int 3]) (s1 := s) rfl ?_
      exact UP.ret (r := some (.int 3)) rfl ⟨by first | (dsimp only [F_findingOf_1]; done) | (dsimp only; done) | rfl, by first | (dsimp only [F_findingOf_1]; done) | (dsimp only; done) | rfl⟩
  · skip
    refine UP.ifF rfl cc ?_
    refine UP.stp 1 (i1 := 4) (L1 := [some (.ref 117), some (.int f), some (.int i)]) (st1 := [.int 1]) (s1 := s) rfl ?_
    exact UP.ret (r := some (.int 1)) rfl ⟨by first | (dsimp only [F_findingOf_1]; done) | (dsimp only; done) | rfl, by first | (dsimp only [F_findingOf_1]; done) | (dsimp only; done) | rfl⟩
def W_ckeep_1 : List (Nat × Nat × Option Nat) := [(117, 117, none), (118, 118, none), (0, 0, some 4)]
def F_ckeep_1 (s : SG) (i : Int32) (v : Int32) : SG := let v2 := bif m_cmp .ne (s 117 2) 0 then (bif m_cmp .ne (s 117 2) 1 then v else v.toInt16.toInt32) else v.toInt8.toInt32; (uset s 118 i.toNatClampNeg v2)
set_option maxRecDepth 20000 in
set_option maxHeartbeats 200000 in
theorem fr_ckeep_1 (s : SG) (i : Int32) (v : Int32)  : Fr W_ckeep_1 s (F_ckeep_1 s i v) := by dsimp only [F_ckeep_1]; exact (let v2 : Int32 := bif m_cmp .ne (s 117 2) 0 then (bif m_cmp .ne (s 117 2) 1 then v else v.toInt16.toInt32) else v.toInt8.toInt32; (Fr.uset (s1 := s) (a := 118) (j := i.toNatClampNeg) (x := v2) (by rfl) (Fr.rf _ _)))
set_option maxRecDepth 20000 in
set_option maxHeartbeats 200000 in
theorem ux_ckeep_1 (s : SG) (i : Int32) (v : Int32)  : UP m_X3_keep 0 (m_ent 3 [.ref 117, .int i, .int v]) [] s (Qv (F_ckeep_1 s i v)) := by
  refine UP.stp 5 (i1 := 5) (L1 := [some (.ref 117), some (.int i), some (.int v)]) (st1 := [.int (s 117 2), .int i, .ref 118]) (s1 := s) rfl ?_
  refine mrg (m_cmp .ne (s 117 2) 0) (bif m_cmp .ne (s 117 2) 1 then v else v.toInt16.toInt32) v.toInt8.toInt32 (fun v2 : Int32 => UP m_X3_keep 17 [some (.ref 117), some (.int i), some (.int v)] [.int v2, .int i, .ref 118] s (Qv (F_ckeep_1 s i v))) (fun cc kk => ?_) (fun cc kk => ?_) (fun v2 e2 => ?_)
  · skip
    refine UP.ifT rfl cc ?_
    refine UP.stp 3 (i1 := 12) (L1 := [some (.ref 117), some (.int i), some (.int v)]) (st1 := [.int 1, .int (s 117 2), .int i, .ref 118]) (s1 := s) rfl ?_
    refine mrg (m_cmp .ne (s 117 2) 1) v v.toInt16.toInt32 (fun v1 : Int32 => UP m_X3_keep 17 [some (.ref 117), some (.int i), some (.int v)] [.int v1, .int i, .ref 118] s (Qv (F_ckeep_1 s i v))) (fun cc kk => ?_) (fun cc kk => ?_) (fun v1 e1 => ?_)
    · skip
      refine UP.icT rfl cc ?_
      refine UP.stp 1 (i1 := 17) (L1 := [some (.ref 117), some (.int i), some (.int v)]) (st1 := [.int v, .int i, .ref 118]) (s1 := s) rfl ?_
      exact kk
    · skip
      refine UP.icF rfl cc ?_
      refine UP.stp 3 (i1 := 17) (L1 := [some (.ref 117), some (.int i), some (.int v)]) (st1 := [.int v.toInt16.toInt32, .int i, .ref 118]) (s1 := s) rfl ?_
      exact kk
    subst e1
    exact kk
  · skip
    refine UP.ifF rfl cc ?_
    refine UP.stp 3 (i1 := 17) (L1 := [some (.ref 117), some (.int i), some (.int v)]) (st1 := [.int v.toInt8.toInt32, .int i, .ref 118]) (s1 := s) rfl ?_
    exact kk
  refine UP.stp 1 (i1 := 18) (L1 := [some (.ref 117), some (.int i), some (.int v)]) (st1 := []) (s1 := (uset s 118 i.toNatClampNeg v2)) rfl ?_
  exact UP.ret (r := none) rfl ⟨by subst e2; first | (dsimp only [F_ckeep_1]; done) | (dsimp only; done) | rfl, by subst e2; first | (dsimp only [F_ckeep_1]; done) | (dsimp only; done) | rfl⟩
end
section
def W_csheet_1 : List (Nat × Nat × Option Nat) := [(117, 117, none), (118, 118, none), (0, 0, some 4)]
def F_csheet_1 (s : SG) (form : Int32) (n : Int32) : Int32 × SG := bif m_cmp .eq (F_isBelow s 1 4) 0 then (((-2), s)) else (bif m_cmp .eq (F_isBelow s form 3) 0 then (((-2), s)) else (bif m_cmp .le n 60 then (bif m_cmp .ge n 0 then (let z11 := F_begin_1 s form n; (n, z11)) else (let z12 := F_find s 5; z12)) else (((-2), s))))
set_option maxRecDepth 20000 in
set_option maxHeartbeats 200000 in
theorem fr_csheet_1 (s : SG) (form : Int32) (n : Int32)  : Fr W_csheet_1 s (F_csheet_1 s form n).2 := by dsimp only [F_csheet_1]; exact (Fr.bifp (b := m_cmp .eq (F_isBelow s 1 4) 0) (x := ((-2), s)) (y := bif m_cmp .eq (F_isBelow s form 3) 0 then (((-2), s)) else (bif m_cmp .le n 60 then (bif m_cmp .ge n 0 then (let z11 := F_begin_1 s form n; (n, z11)) else (let z12 := F_find s 5; z12)) else (((-2), s)))) (fun x : Int32 × SG => x.2) (by (try dsimp only); exact (Fr.rf _ _)) (by (try dsimp only); exact (Fr.bifp (b := m_cmp .eq (F_isBelow s form 3) 0) (x := ((-2), s)) (y := bif m_cmp .le n 60 then (bif m_cmp .ge n 0 then (let z11 := F_begin_1 s form n; (n, z11)) else (let z12 := F_find s 5; z12)) else (((-2), s))) (fun x : Int32 × SG => x.2) (by (try dsimp only); exact (Fr.rf _ _)) (by (try dsimp only); exact (Fr.bifp (b := m_cmp .le n 60) (x := bif m_cmp .ge n 0 then (let z11 := F_begin_1 s form n; (n, z11)) else (let z12 := F_find s 5; z12)) (y := ((-2), s)) (fun x : Int32 × SG => x.2) (by (try dsimp only); exact (Fr.bifp (b := m_cmp .ge n 0) (x := let z11 := F_begin_1 s form n; (n, z11)) (y := let z12 := F_find s 5; z12) (fun x : Int32 × SG => x.2) (by (try dsimp only); exact (Fr.tr (s1 := s) (Fr.rf _ _) (Fr.wk (W2 := W_csheet_1) (fr_begin_1 s form n) (by rfl)))) (by (try dsimp only); exact (Fr.tr (s1 := s) (Fr.rf _ _) (Fr.wk (W2 := W_csheet_1) (fr_find s 5) (by rfl)))))) (by (try dsimp only); exact (Fr.rf _ _)))))))
set_option maxRecDepth 20000 in
set_option maxHeartbeats 200000 in
theorem ux_csheet_1 (s : SG) (form : Int32) (n : Int32)  : UP m_X6_sheet 0 (m_ent 4 [.ref 0, .int 1, .int form, .int n]) [] s (Qb (F_csheet_1 s form n)) := by
  refine UP.stp 2 (i1 := 2) (L1 := [some (.ref 0), some (.int 1), some (.int form), some (.int n)]) (st1 := [.int 4, .int 1]) (s1 := s) rfl ?_
  refine UP.cI (M1 := m_X6_isBelow) (as := [.int 1, .int 4]) (rest := []) (T := F_isBelow s 1 4) rfl rfl (ux_isBelow s 1 4) ?_
  refine UP.spl (m_cmp .eq (F_isBelow s 1 4) 0) (((-2), s)) (bif m_cmp .eq (F_isBelow s form 3) 0 then (((-2), s)) else (bif m_cmp .le n 60 then (bif m_cmp .ge n 0 then (let z11 := F_begin_1 s form n; (n, z11)) else (let z12 := F_find s 5; z12)) else (((-2), s)))) (by first | (dsimp only [F_csheet_1]; done) | (dsimp only; done) | rfl) (fun cc => ?_) (fun cc => ?_)
  · skip
    refine UP.ifT rfl cc ?_
    refine UP.stp 1 (i1 := 12) (L1 := [some (.ref 0), some (.int 1), some (.int form), some (.int n)]) (st1 := [.int (-2)]) (s1 := s) rfl ?_
    exact UP.ret (r := some (.int (-2))) rfl ⟨by first | (dsimp only [F_csheet_1]; done) | (dsimp only; done) | rfl, by first | (dsimp only [F_csheet_1]; done) | (dsimp only; done) | rfl⟩
  · skip
    refine UP.ifF rfl cc ?_
    refine UP.stp 2 (i1 := 6) (L1 := [some (.ref 0), some (.int 1), some (.int form), some (.int n)]) (st1 := [.int 3, .int form]) (s1 := s) rfl ?_
    refine UP.cI (M1 := m_X6_isBelow) (as := [.int form, .int 3]) (rest := []) (T := F_isBelow s form 3) rfl rfl (ux_isBelow s form 3) ?_
    refine UP.spl (m_cmp .eq (F_isBelow s form 3) 0) (((-2), s)) (bif m_cmp .le n 60 then (bif m_cmp .ge n 0 then (let z11 := F_begin_1 s form n; (n, z11)) else (let z12 := F_find s 5; z12)) else (((-2), s))) (by first | (dsimp only [F_csheet_1]; done) | (dsimp only; done) | rfl) (fun cc => ?_) (fun cc => ?_)
    · skip
      refine UP.ifT rfl cc ?_
      refine UP.stp 1 (i1 := 12) (L1 := [some (.ref 0), some (.int 1), some (.int form), some (.int n)]) (st1 := [.int (-2)]) (s1 := s) rfl ?_
      exact UP.ret (r := some (.int (-2))) rfl ⟨by first | (dsimp only [F_csheet_1]; done) | (dsimp only; done) | rfl, by first | (dsimp only [F_csheet_1]; done) | (dsimp only; done) | rfl⟩
    · skip
      refine UP.ifF rfl cc ?_
      refine UP.stp 2 (i1 := 10) (L1 := [some (.ref 0), some (.int 1), some (.int form), some (.int n)]) (st1 := [.int 60, .int n]) (s1 := s) rfl ?_
      refine UP.spl (m_cmp .le n 60) (bif m_cmp .ge n 0 then (let z11 := F_begin_1 s form n; (n, z11)) else (let z12 := F_find s 5; z12)) (((-2), s)) (by first | (dsimp only [F_csheet_1]; done) | (dsimp only; done) | rfl) (fun cc => ?_) (fun cc => ?_)
      · skip
        refine UP.icT rfl cc ?_
        refine UP.stp 1 (i1 := 14) (L1 := [some (.ref 0), some (.int 1), some (.int form), some (.int n)]) (st1 := [.int n]) (s1 := s) rfl ?_
        refine UP.spl (m_cmp .ge n 0) (let z11 := F_begin_1 s form n; (n, z11)) (let z12 := F_find s 5; z12) (by first | (dsimp only [F_csheet_1]; done) | (dsimp only; done) | rfl) (fun cc => ?_) (fun cc => ?_)
        · skip
          refine UP.ifT rfl cc ?_
          refine UP.stp 3 (i1 := 22) (L1 := [some (.ref 0), some (.int 1), some (.int form), some (.int n)]) (st1 := [.int 1, .ref 9]) (s1 := s) rfl ?_
          refine UP.aald (e := 1) (r := 117) rfl rfl (by omega) rfl ?_
          refine UP.stp 2 (i1 := 25) (L1 := [some (.ref 0), some (.int 1), some (.int form), some (.int n)]) (st1 := [.int n, .int form, .ref 117]) (s1 := s) rfl ?_
          refine UP.cV (M1 := m_X3_begin) (as := [.ref 117, .int form, .int n]) (rest := []) (T := F_begin_1 s form n) rfl rfl (ux_begin_1 s form n) (fun z11 e11 => ?_)
          refine UP.stp 1 (i1 := 27) (L1 := [some (.ref 0), some (.int 1), some (.int form), some (.int n)]) (st1 := [.int n]) (s1 := z11) rfl ?_
          exact UP.ret (r := some (.int n)) rfl ⟨by subst e11; first | (dsimp only [F_csheet_1]; done) | (dsimp only; done) | rfl, by subst e11; first | (dsimp only [F_csheet_1]; done) | (dsimp only; done) | rfl⟩
        · skip
          refine UP.ifF rfl cc ?_
          refine UP.stp 2 (i1 := 17) (L1 := [some (.ref 0), some (.int 1), some (.int form), some (.int n)]) (st1 := [.int 5, .ref 0]) (s1 := s) rfl ?_
          refine UP.cB (M1 := m_X6_find) (as := [.ref 0, .int 5]) (rest := []) (T := F_find s 5) rfl rfl (ux_find s 5) (fun z12 e12 => ?_)
          exact UP.ret (r := some (.int z12.1)) rfl ⟨by subst e12; first | (dsimp only [F_csheet_1]; done) | (dsimp only; done) | rfl, by subst e12; first | (dsimp only [F_csheet_1]; done) | (dsimp only; done) | rfl⟩
      · skip
        refine UP.icF rfl cc ?_
        refine UP.stp 1 (i1 := 12) (L1 := [some (.ref 0), some (.int 1), some (.int form), some (.int n)]) (st1 := [.int (-2)]) (s1 := s) rfl ?_
        exact UP.ret (r := some (.int (-2))) rfl ⟨by first | (dsimp only [F_csheet_1]; done) | (dsimp only; done) | rfl, by first | (dsimp only [F_csheet_1]; done) | (dsimp only; done) | rfl⟩
def W_close_1 : List (Nat × Nat × Option Nat) := [(117, 117, none), (118, 118, none), (0, 0, some 4)]
def F_close_1 (s : SG)  : Int32 × SG := bif m_cmp .ne (F_isBelow s 1 4) 0 then (bif m_cmp .eq (s 117 1) 0 then ((s 117 3, (uset s 117 1 1))) else (let z6 := F_find s 1; z6)) else (((-2), s))
set_option maxRecDepth 20000 in
set_option maxHeartbeats 200000 in
theorem fr_close_1 (s : SG)   : Fr W_close_1 s (F_close_1 s).2 := by dsimp only [F_close_1]; exact (Fr.bifp (b := m_cmp .ne (F_isBelow s 1 4) 0) (x := bif m_cmp .eq (s 117 1) 0 then ((s 117 3, (uset s 117 1 1))) else (let z6 := F_find s 1; z6)) (y := ((-2), s)) (fun x : Int32 × SG => x.2) (by (try dsimp only); exact (Fr.bifp (b := m_cmp .eq (s 117 1) 0) (x := (s 117 3, (uset s 117 1 1))) (y := let z6 := F_find s 1; z6) (fun x : Int32 × SG => x.2) (by (try dsimp only); exact (Fr.uset (s1 := s) (a := 117) (j := 1) (x := 1) (by rfl) (Fr.rf _ _))) (by (try dsimp only); exact (Fr.tr (s1 := s) (Fr.rf _ _) (Fr.wk (W2 := W_close_1) (fr_find s 1) (by rfl)))))) (by (try dsimp only); exact (Fr.rf _ _)))
set_option maxRecDepth 20000 in
set_option maxHeartbeats 200000 in
theorem ux_close_1 (s : SG)   : UP m_X6_lose 0 (m_ent 2 [.ref 0, .int 1]) [] s (Qb (F_close_1 s)) := by
  refine UP.stp 2 (i1 := 2) (L1 := [some (.ref 0), some (.int 1)]) (st1 := [.int 4, .int 1]) (s1 := s) rfl ?_
  refine UP.cI (M1 := m_X6_isBelow) (as := [.int 1, .int 4]) (rest := []) (T := F_isBelow s 1 4) rfl rfl (ux_isBelow s 1 4) ?_
  refine UP.spl (m_cmp .ne (F_isBelow s 1 4) 0) (bif m_cmp .eq (s 117 1) 0 then ((s 117 3, (uset s 117 1 1))) else (let z6 := F_find s 1; z6)) (((-2), s)) (by first | (dsimp only [F_close_1]; done) | (dsimp only; done) | rfl) (fun cc => ?_) (fun cc => ?_)
  · skip
    refine UP.ifT rfl cc ?_
    refine UP.stp 3 (i1 := 9) (L1 := [some (.ref 0), some (.int 1)]) (st1 := [.int 1, .ref 9]) (s1 := s) rfl ?_
    refine UP.aald (e := 1) (r := 117) rfl rfl (by omega) rfl ?_
    refine UP.stp 1 (i1 := 11) (L1 := [some (.ref 0), some (.int 1)]) (st1 := [.int (s 117 1)]) (s1 := s) rfl ?_
    refine UP.spl (m_cmp .eq (s 117 1) 0) ((s 117 3, (uset s 117 1 1))) (let z6 := F_find s 1; z6) (by first | (dsimp only [F_close_1]; done) | (dsimp only; done) | rfl) (fun cc => ?_) (fun cc => ?_)
    · skip
      refine UP.ifT rfl cc ?_
      refine UP.stp 3 (i1 := 19) (L1 := [some (.ref 0), some (.int 1)]) (st1 := [.int 1, .ref 9]) (s1 := s) rfl ?_
      refine UP.aald (e := 1) (r := 117) rfl rfl (by omega) rfl ?_
      refine UP.stp 5 (i1 := 25) (L1 := [some (.ref 0), some (.int 1)]) (st1 := [.int 1, .ref 9]) (s1 := (uset s 117 1 1)) rfl ?_
      refine UP.aald (e := 1) (r := 117) rfl rfl (by omega) rfl ?_
      refine UP.stp 1 (i1 := 27) (L1 := [some (.ref 0), some (.int 1)]) (st1 := [.int (s 117 3)]) (s1 := (uset s 117 1 1)) rfl ?_
      exact UP.ret (r := some (.int (s 117 3))) rfl ⟨by first | (dsimp only [F_close_1]; done) | (dsimp only; done) | rfl, by first | (dsimp only [F_close_1]; done) | (dsimp only; done) | rfl⟩
    · skip
      refine UP.ifF rfl cc ?_
      refine UP.stp 2 (i1 := 14) (L1 := [some (.ref 0), some (.int 1)]) (st1 := [.int 1, .ref 0]) (s1 := s) rfl ?_
      refine UP.cB (M1 := m_X6_find) (as := [.ref 0, .int 1]) (rest := []) (T := F_find s 1) rfl rfl (ux_find s 1) (fun z6 e6 => ?_)
      exact UP.ret (r := some (.int z6.1)) rfl ⟨by subst e6; first | (dsimp only [F_close_1]; done) | (dsimp only; done) | rfl, by subst e6; first | (dsimp only [F_close_1]; done) | (dsimp only; done) | rfl⟩
  · skip
    refine UP.ifF rfl cc ?_
    refine UP.stp 1 (i1 := 5) (L1 := [some (.ref 0), some (.int 1)]) (st1 := [.int (-2)]) (s1 := s) rfl ?_
    exact UP.ret (r := some (.int (-2))) rfl ⟨by first | (dsimp only [F_close_1]; done) | (dsimp only; done) | rfl, by first | (dsimp only [F_close_1]; done) | (dsimp only; done) | rfl⟩
end
