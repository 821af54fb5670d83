def W_sortsBy : List (Nat × Nat × Option Nat) := [(126, 129, none), (133, 144, none), (147, 147, none), (123, 123, some 2), (123, 123, some 5), (123, 123, some 7), (123, 123, some 17), (123, 123, some 19), (123, 123, some 20), (123, 123, some 21), (123, 123, some 22), (123, 123, some 23), (123, 123, some 24), (123, 123, some 25), (123, 123, some 26), (123, 123, some 27)]
def B_sortsBy_11 (k : Int32) (i3 : Nat) (a3 : SG × Int32) : SG × Int32 := let z4 := F_isSeen (uset a3.1 126 k.toNatClampNeg (Int32.ofNat i3)) ; let v5 := bif m_cmp .eq z4.1 0 then (0 : Int32) else 1 <<< ((Int32.ofNat i3) &&& 31); let v6 := a3.2 ||| v5; (z4.2, v6)
set_option maxRecDepth 20000 in
set_option maxHeartbeats 200000 in
theorem fr_B_sortsBy_11 (k : Int32) (i3 : Nat) (a3 : SG × Int32)  (hi3 : i3 < 3) : Fr W_sortsBy a3.1 ((B_sortsBy_11 k) i3 a3).1 := by dsimp only [B_sortsBy_11]; exact (Fr.tr (s1 := (uset a3.1 126 k.toNatClampNeg (Int32.ofNat i3))) (Fr.uset (s1 := a3.1) (a := 126) (j := k.toNatClampNeg) (x := Int32.ofNat i3) (by rfl) (Fr.rf _ _)) (Fr.wk (W2 := W_sortsBy) (fr_isSeen (uset a3.1 126 k.toNatClampNeg (Int32.ofNat i3)) ) (by rfl)))
def F_sortsBy (s : SG) (k : Int32) : Int32 × SG := let z1 := F_asTold s ; let v2 := z1 126 k.toNatClampNeg; let z3 := itr (B_sortsBy_11 k) 0 3 (z1, 0); (z3.2, (uset z3.1 126 k.toNatClampNeg v2))
set_option maxRecDepth 20000 in
set_option maxHeartbeats 200000 in
theorem fr_sortsBy (s : SG) (k : Int32)  : Fr W_sortsBy s (F_sortsBy s k).2 := by dsimp only [F_sortsBy]; exact (let z1 : SG := F_asTold s ; (let v2 : Int32 := z1 126 k.toNatClampNeg; (let z3 : SG × Int32 := itr (B_sortsBy_11 k) 0 3 (z1, 0); (Fr.uset (s1 := z3.1) (a := 126) (j := k.toNatClampNeg) (x := v2) (by rfl) (frItrB (W := W_sortsBy) (m := (fun x : SG × Int32 => x.1)) (f := (B_sortsBy_11 k)) 3 (fun ii aa hh => Fr.wk (W2 := W_sortsBy) (fr_B_sortsBy_11 k ii aa  hh) (by rfl)) 3 0 (z1, 0) (by omega) (Fr.tr (s1 := s) (Fr.rf _ _) (Fr.wk (W2 := W_sortsBy) (fr_asTold s ) (by rfl))))))))
set_option maxRecDepth 20000 in
set_option maxHeartbeats 200000 in
theorem ux_sortsBy (s : SG) (k : Int32)  : UP m_X7_sortsBy 0 (m_ent 5 [.ref 123, .int k]) [] s (Qb (F_sortsBy s k)) := by
  refine UP.stp 1 (i1 := 1) (L1 := [some (.ref 123), some (.int k), none, none, none]) (st1 := [.ref 123]) (s1 := s) rfl ?_
  refine UP.cV (M1 := m_X7_asTold) (as := [.ref 123]) (rest := []) (T := F_asTold s ) rfl rfl (ux_asTold s ) (fun z1 e1 => ?_)
  refine UP.stp 4 (i1 := 6) (L1 := [some (.ref 123), some (.int k), none, none, none]) (st1 := [.int (z1 126 k.toNatClampNeg)]) (s1 := z1) rfl ?_
  refine nm (G := fun v2 => UP m_X7_sortsBy 6 [some (.ref 123), some (.int k), none, none, none] [.int v2] z1 (Qb (F_sortsBy s k))) (z1 126 k.toNatClampNeg) (fun v2 e2 => ?_)
  refine UP.stp 5 (i1 := 11) (L1 := [some (.ref 123), some (.int k), some (.int v2), some (.int 0), some (.int 0)]) (st1 := []) (s1 := z1) rfl ?_
  refine lp (fun (i3 : Nat) (a3 : SG × Int32) => UP m_X7_sortsBy 11 [some (.ref 123), some (.int k), some (.int v2), some (.int a3.2), some (.int (Int32.ofNat i3))] [] a3.1 (Qb (F_sortsBy s k))) (fun (_ : Nat) (a3 : SG × Int32) => Fr W_sortsBy z1 a3.1) (B_sortsBy_11 k) (3) (fun i3 a3 hi3 g3 => g3.tr (fr_B_sortsBy_11 k i3 a3 hi3)) (fun i3 a3 hi3 g3 kk => ?_) 3 (0) (z1, 0) (by  omega) (Fr.rf _ _) (fun z3 e3 g3 => ?_)
  · skip
    refine UP.stp 2 (i1 := 13) (L1 := [some (.ref 123), some (.int k), some (.int v2), some (.int a3.2), some (.int (Int32.ofNat i3))]) (st1 := [.int 3, .int (Int32.ofNat i3)]) (s1 := a3.1) rfl ?_
    refine UP.icF rfl (ge_F (show i3 < (3 : Int32).toNatClampNeg from hi3)) ?_
    refine UP.stp 7 (i1 := 21) (L1 := [some (.ref 123), some (.int k), some (.int v2), some (.int a3.2), some (.int (Int32.ofNat i3))]) (st1 := [.ref 123, .int a3.2]) (s1 := (uset a3.1 126 k.toNatClampNeg (Int32.ofNat i3))) rfl ?_
    refine UP.cB (M1 := m_X7_isSeen) (as := [.ref 123]) (rest := [.int a3.2]) (T := F_isSeen (uset a3.1 126 k.toNatClampNeg (Int32.ofNat i3)) ) rfl rfl (ux_isSeen (uset a3.1 126 k.toNatClampNeg (Int32.ofNat i3)) ) (fun z4 e4 => ?_)
    refine mrg (m_cmp .eq z4.1 0) (0 : Int32) (1 <<< ((Int32.ofNat i3) &&& 31)) (fun v5 : Int32 => UP m_X7_sortsBy 28 [some (.ref 123), some (.int k), some (.int v2), some (.int a3.2), some (.int (Int32.ofNat i3))] [.int v5, .int a3.2] z4.2 (Qb (F_sortsBy s k))) (fun cc kk => ?_) (fun cc kk => ?_) (fun v5 e5 => ?_)
    · skip
      refine UP.ifT rfl cc ?_
      refine UP.stp 1 (i1 := 28) (L1 := [some (.ref 123), some (.int k), some (.int v2), some (.int a3.2), some (.int (Int32.ofNat i3))]) (st1 := [.int 0, .int a3.2]) (s1 := z4.2) rfl ?_
      exact kk
    · skip
      refine UP.ifF rfl cc ?_
      refine UP.stp 4 (i1 := 28) (L1 := [some (.ref 123), some (.int k), some (.int v2), some (.int a3.2), some (.int (Int32.ofNat i3))]) (st1 := [.int (1 <<< ((Int32.ofNat i3) &&& 31)), .int a3.2]) (s1 := z4.2) rfl ?_
      exact kk
    refine UP.stp 1 (i1 := 29) (L1 := [some (.ref 123), some (.int k), some (.int v2), some (.int a3.2), some (.int (Int32.ofNat i3))]) (st1 := [.int (a3.2 ||| v5)]) (s1 := z4.2) rfl ?_
    refine nm (G := fun v6 => UP m_X7_sortsBy 29 [some (.ref 123), some (.int k), some (.int v2), some (.int a3.2), some (.int (Int32.ofNat i3))] [.int v6] z4.2 (Qb (F_sortsBy s k))) (a3.2 ||| v5) (fun v6 e6 => ?_)
    refine UP.stp 3 (i1 := 11) (L1 := [some (.ref 123), some (.int k), some (.int v2), some (.int v6), some (.int ((Int32.ofNat i3) + 1))]) (st1 := []) (s1 := z4.2) rfl ?_
    subst e6 e5 e4
    rw [ofn_s]
    try dsimp only [B_sortsBy_11] at kk
    exact kk
  refine UP.stp 2 (i1 := 13) (L1 := [some (.ref 123), some (.int k), some (.int v2), some (.int z3.2), some (.int (Int32.ofNat 3))]) (st1 := [.int 3, .int (Int32.ofNat 3)]) (s1 := z3.1) rfl ?_
  refine UP.icT rfl (ge_T (3 : Int32)) ?_
  refine UP.stp 6 (i1 := 38) (L1 := [some (.ref 123), some (.int k), some (.int v2), some (.int z3.2), some (.int (Int32.ofNat 3))]) (st1 := [.int z3.2]) (s1 := (uset z3.1 126 k.toNatClampNeg v2)) rfl ?_
  exact UP.ret (r := some (.int z3.2)) rfl ⟨by subst e3 e2 e1; first | (dsimp only [F_sortsBy]; done) | (dsimp only; done) | rfl, by subst e3 e2 e1; first | (dsimp only [F_sortsBy]; done) | (dsimp only; done) | rfl⟩
def W_was : List (Nat × Nat × Option Nat) := [(126, 129, none), (133, 144, none), (147, 147, none), (123, 123, some 2), (123, 123, some 5), (123, 123, some 7), (123, 123, some 17), (123, 123, some 19), (123, 123, some 20), (123, 123, some 21), (123, 123, some 22), (123, 123, some 23), (123, 123, some 24), (123, 123, some 25), (123, 123, some 26), (123, 123, some 27)]
def F_was (s : SG) (seat : Int32) (what : Int32) : Int32 × SG := let z1 := F_isRower s seat; let w7 := bif m_cmp .eq z1.1 0 then ((-2 : Int32), z1.2) else (bif m_cmp .eq (F_isTwo z1.2 what) 0 then ((-2 : Int32), z1.2) else (bif m_cmp .ne what 0 then (F_sortsBy z1.2 seat) else (F_powersBy z1.2 seat))); w7
set_option maxRecDepth 20000 in
set_option maxHeartbeats 200000 in
theorem fr_was (s : SG) (seat : Int32) (what : Int32)  : Fr W_was s (F_was s seat what).2 := by dsimp only [F_was]; exact (let z1 : Int32 × SG := F_isRower s seat; (Fr.bifp (b := m_cmp .eq z1.1 0) (x := ((-2 : Int32), z1.2)) (y := (bif m_cmp .eq (F_isTwo z1.2 what) 0 then ((-2 : Int32), z1.2) else (bif m_cmp .ne what 0 then (F_sortsBy z1.2 seat) else (F_powersBy z1.2 seat)))) (fun x : Int32 × SG => x.2) (by (try dsimp only); exact (Fr.tr (s1 := s) (Fr.rf _ _) (Fr.wk (W2 := W_was) (fr_isRower s seat) (by rfl)))) (by (try dsimp only); exact (Fr.bifp (b := m_cmp .eq (F_isTwo z1.2 what) 0) (x := ((-2 : Int32), z1.2)) (y := (bif m_cmp .ne what 0 then (F_sortsBy z1.2 seat) else (F_powersBy z1.2 seat))) (fun x : Int32 × SG => x.2) (by (try dsimp only); exact (Fr.tr (s1 := s) (Fr.rf _ _) (Fr.wk (W2 := W_was) (fr_isRower s seat) (by rfl)))) (by (try dsimp only); exact (Fr.bifp (b := m_cmp .ne what 0) (x := (F_sortsBy z1.2 seat)) (y := (F_powersBy z1.2 seat)) (fun x : Int32 × SG => x.2) (by (try dsimp only); exact (Fr.tr (s1 := z1.2) (Fr.tr (s1 := s) (Fr.rf _ _) (Fr.wk (W2 := W_was) (fr_isRower s seat) (by rfl))) (Fr.wk (W2 := W_was) (fr_sortsBy z1.2 seat) (by rfl)))) (by (try dsimp only); exact (Fr.tr (s1 := z1.2) (Fr.tr (s1 := s) (Fr.rf _ _) (Fr.wk (W2 := W_was) (fr_isRower s seat) (by rfl))) (Fr.wk (W2 := W_was) (fr_powersBy z1.2 seat) (by rfl))))))))))
set_option maxRecDepth 20000 in
set_option maxHeartbeats 200000 in
theorem ux_was (s : SG) (seat : Int32) (what : Int32)  : UP m_X7_was 0 (m_ent 3 [.ref 123, .int seat, .int what]) [] s (Qb (F_was s seat what)) := by
  refine UP.stp 2 (i1 := 2) (L1 := [some (.ref 123), some (.int seat), some (.int what)]) (st1 := [.int seat, .ref 123]) (s1 := s) rfl ?_
  refine UP.cB (M1 := m_X7_isRower) (as := [.ref 123, .int seat]) (rest := []) (T := F_isRower s seat) rfl rfl (ux_isRower s seat) (fun z1 e1 => ?_)
  refine mrg (m_cmp .eq z1.1 0) ((-2 : Int32), z1.2) (bif m_cmp .eq (F_isTwo z1.2 what) 0 then ((-2 : Int32), z1.2) else (bif m_cmp .ne what 0 then (F_sortsBy z1.2 seat) else (F_powersBy z1.2 seat))) (fun w7 : Int32 × SG => UP m_X7_was 18 [some (.ref 123), some (.int seat), some (.int what)] [.int w7.1] w7.2 (Qb (F_was s seat what))) (fun cc kk => ?_) (fun cc kk => ?_) (fun w7 e7 => ?_)
  · skip
    refine UP.ifT rfl cc ?_
    refine UP.stp 1 (i1 := 18) (L1 := [some (.ref 123), some (.int seat), some (.int what)]) (st1 := [.int (-2)]) (s1 := z1.2) rfl ?_
    exact kk
  · skip
    refine UP.ifF rfl cc ?_
    refine UP.stp 1 (i1 := 5) (L1 := [some (.ref 123), some (.int seat), some (.int what)]) (st1 := [.int what]) (s1 := z1.2) rfl ?_
    refine UP.cI (M1 := m_X7_isTwo) (as := [.int what]) (rest := []) (T := F_isTwo z1.2 what) rfl rfl (ux_isTwo z1.2 what) ?_
    refine mrg (m_cmp .eq (F_isTwo z1.2 what) 0) ((-2 : Int32), z1.2) (bif m_cmp .ne what 0 then (F_sortsBy z1.2 seat) else (F_powersBy z1.2 seat)) (fun w6 : Int32 × SG => UP m_X7_was 18 [some (.ref 123), some (.int seat), some (.int what)] [.int w6.1] w6.2 (Qb (F_was s seat what))) (fun cc kk => ?_) (fun cc kk => ?_) (fun w6 e6 => ?_)
    · skip
      refine UP.ifT rfl cc ?_
      refine UP.stp 1 (i1 := 18) (L1 := [some (.ref 123), some (.int seat), some (.int what)]) (st1 := [.int (-2)]) (s1 := z1.2) rfl ?_
      exact kk
    · skip
      refine UP.ifF rfl cc ?_
      refine UP.stp 1 (i1 := 8) (L1 := [some (.ref 123), some (.int seat), some (.int what)]) (st1 := [.int what]) (s1 := z1.2) rfl ?_
      refine mrg (m_cmp .ne what 0) (F_sortsBy z1.2 seat) (F_powersBy z1.2 seat) (fun w5 : Int32 × SG => UP m_X7_was 18 [some (.ref 123), some (.int seat), some (.int what)] [.int w5.1] w5.2 (Qb (F_was s seat what))) (fun cc kk => ?_) (fun cc kk => ?_) (fun w5 e5 => ?_)
      · skip
        refine UP.ifT rfl cc ?_
        refine UP.stp 2 (i1 := 15) (L1 := [some (.ref 123), some (.int seat), some (.int what)]) (st1 := [.int seat, .ref 123]) (s1 := z1.2) rfl ?_
        refine UP.cB (M1 := m_X7_sortsBy) (as := [.ref 123, .int seat]) (rest := []) (T := F_sortsBy z1.2 seat) rfl rfl (ux_sortsBy z1.2 seat) (fun z3 e3 => ?_)
        refine UP.stp 1 (i1 := 18) (L1 := [some (.ref 123), some (.int seat), some (.int what)]) (st1 := [.int z3.1]) (s1 := z3.2) rfl ?_
        subst e3
        exact kk
      · skip
        refine UP.ifF rfl cc ?_
        refine UP.stp 2 (i1 := 11) (L1 := [some (.ref 123), some (.int seat), some (.int what)]) (st1 := [.int seat, .ref 123]) (s1 := z1.2) rfl ?_
        refine UP.cB (M1 := m_X7_powersBy) (as := [.ref 123, .int seat]) (rest := []) (T := F_powersBy z1.2 seat) rfl rfl (ux_powersBy z1.2 seat) (fun z4 e4 => ?_)
        refine UP.stp 1 (i1 := 18) (L1 := [some (.ref 123), some (.int seat), some (.int what)]) (st1 := [.int z4.1]) (s1 := z4.2) rfl ?_
        subst e4
        exact kk
      subst e5
      exact kk
    subst e6
    exact kk
  exact UP.ret (r := some (.int w7.1)) rfl ⟨by subst e7 e1; first | (dsimp only [F_was]; done) | (dsimp only; done) | rfl, by subst e7 e1; first | (dsimp only [F_was]; done) | (dsimp only; done) | rfl⟩
