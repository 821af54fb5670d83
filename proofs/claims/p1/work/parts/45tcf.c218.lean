def W_take : List (Nat × Nat × Option Nat) := [(53, 57, none)]
def F_take (s : SG)  : SG := let v1 := s 10 0; let v2 := (mvs (mvs (mvs (mvs (uset s 53 0 v1) 11 0 54 0 8) 12 0 55 0 8) 13 0 56 0 24) 14 0 57 0 24) 10 5; let v3 := (mvs (mvs (mvs (mvs (uset s 53 0 v1) 11 0 54 0 8) 12 0 55 0 8) 13 0 56 0 24) 14 0 57 0 24) 10 6; (uset (uset (mvs (mvs (mvs (mvs (uset s 53 0 v1) 11 0 54 0 8) 12 0 55 0 8) 13 0 56 0 24) 14 0 57 0 24) 53 5 v2) 53 6 v3)
set_option maxRecDepth 20000 in
set_option maxHeartbeats 200000 in
theorem fr_take (s : SG)   : Fr W_take s (F_take s) := by dsimp only [F_take]; exact (let v1 : Int32 := s 10 0; (let v2 : Int32 := (mvs (mvs (mvs (mvs (uset s 53 0 v1) 11 0 54 0 8) 12 0 55 0 8) 13 0 56 0 24) 14 0 57 0 24) 10 5; (let v3 : Int32 := (mvs (mvs (mvs (mvs (uset s 53 0 v1) 11 0 54 0 8) 12 0 55 0 8) 13 0 56 0 24) 14 0 57 0 24) 10 6; (Fr.uset (s1 := (uset (mvs (mvs (mvs (mvs (uset s 53 0 v1) 11 0 54 0 8) 12 0 55 0 8) 13 0 56 0 24) 14 0 57 0 24) 53 5 v2)) (a := 53) (j := 6) (x := v3) (by rfl) (Fr.uset (s1 := (mvs (mvs (mvs (mvs (uset s 53 0 v1) 11 0 54 0 8) 12 0 55 0 8) 13 0 56 0 24) 14 0 57 0 24)) (a := 53) (j := 5) (x := v2) (by rfl) (Fr.mvs (by rfl) (Fr.mvs (by rfl) (Fr.mvs (by rfl) (Fr.mvs (by rfl) (Fr.uset (s1 := s) (a := 53) (j := 0) (x := v1) (by rfl) (Fr.rf _ _)))))))))))
set_option maxRecDepth 20000 in
set_option maxHeartbeats 200000 in
theorem ux_take (s : SG)   : UP m_X0_take 0 (m_ent 2 [.ref 53, .ref 10]) [] s (Qv (F_take s)) := by
  refine UP.stp 3 (i1 := 3) (L1 := [some (.ref 53), some (.ref 10)]) (st1 := [.int (s 10 0), .ref 53]) (s1 := s) rfl ?_
  refine nm (G := fun v1 => UP m_X0_take 3 [some (.ref 53), some (.ref 10)] [.int v1, .ref 53] s (Qv (F_take s))) (s 10 0) (fun v1 e1 => ?_)
  refine UP.stp 36 (i1 := 39) (L1 := [some (.ref 53), some (.ref 10)]) (st1 := [.int ((mvs (mvs (mvs (mvs (uset s 53 0 v1) 11 0 54 0 8) 12 0 55 0 8) 13 0 56 0 24) 14 0 57 0 24) 10 5), .ref 53]) (s1 := (mvs (mvs (mvs (mvs (uset s 53 0 v1) 11 0 54 0 8) 12 0 55 0 8) 13 0 56 0 24) 14 0 57 0 24)) rfl ?_
  refine nm (G := fun v2 => UP m_X0_take 39 [some (.ref 53), some (.ref 10)] [.int v2, .ref 53] (mvs (mvs (mvs (mvs (uset s 53 0 v1) 11 0 54 0 8) 12 0 55 0 8) 13 0 56 0 24) 14 0 57 0 24) (Qv (F_take s))) ((mvs (mvs (mvs (mvs (uset s 53 0 v1) 11 0 54 0 8) 12 0 55 0 8) 13 0 56 0 24) 14 0 57 0 24) 10 5) (fun v2 e2 => ?_)
  refine UP.stp 4 (i1 := 43) (L1 := [some (.ref 53), some (.ref 10)]) (st1 := [.int ((mvs (mvs (mvs (mvs (uset s 53 0 v1) 11 0 54 0 8) 12 0 55 0 8) 13 0 56 0 24) 14 0 57 0 24) 10 6), .ref 53]) (s1 := (uset (mvs (mvs (mvs (mvs (uset s 53 0 v1) 11 0 54 0 8) 12 0 55 0 8) 13 0 56 0 24) 14 0 57 0 24) 53 5 v2)) rfl ?_
  refine nm (G := fun v3 => UP m_X0_take 43 [some (.ref 53), some (.ref 10)] [.int v3, .ref 53] (uset (mvs (mvs (mvs (mvs (uset s 53 0 v1) 11 0 54 0 8) 12 0 55 0 8) 13 0 56 0 24) 14 0 57 0 24) 53 5 v2) (Qv (F_take s))) ((mvs (mvs (mvs (mvs (uset s 53 0 v1) 11 0 54 0 8) 12 0 55 0 8) 13 0 56 0 24) 14 0 57 0 24) 10 6) (fun v3 e3 => ?_)
  refine UP.stp 1 (i1 := 44) (L1 := [some (.ref 53), some (.ref 10)]) (st1 := []) (s1 := (uset (uset (mvs (mvs (mvs (mvs (uset s 53 0 v1) 11 0 54 0 8) 12 0 55 0 8) 13 0 56 0 24) 14 0 57 0 24) 53 5 v2) 53 6 v3)) rfl ?_
  exact UP.ret (r := none) rfl ⟨by subst e3 e2 e1; first | (dsimp only [F_take]; done) | (dsimp only; done) | rfl, by subst e3 e2 e1; first | (dsimp only [F_take]; done) | (dsimp only; done) | rfl⟩
def W_minutesAground_a : List (Nat × Nat × Option Nat) := []
def B_minutesAground_a_4 (s : SG) (i1 : Nat) (a1 : Int32) : Int32 := let v2 := a1 + (s 20 i1); v2
def F_minutesAground_a (s : SG)  : Int32 := let z1 := itr (B_minutesAground_a_4 s) 0 24 (0 : Int32); z1
set_option maxRecDepth 20000 in
set_option maxHeartbeats 200000 in
theorem ux_minutesAground_a (s : SG)   : UP m_X5_minutesAground 0 (m_ent 3 [.ref 15]) [] s (Qi s (F_minutesAground_a s)) := by
  refine UP.stp 4 (i1 := 4) (L1 := [some (.ref 15), some (.int 0), some (.int 0)]) (st1 := []) (s1 := s) rfl ?_
  refine lp (fun (i1 : Nat) (a1 : Int32) => UP m_X5_minutesAground 4 [some (.ref 15), some (.int a1), some (.int (Int32.ofNat i1))] [] s (Qi s (F_minutesAground_a s))) (fun (_ : Nat) (a1 : Int32) => Fr W_minutesAground_a s s) (B_minutesAground_a_4 s) (24) (fun i1 a1 hi1 g1 => g1) (fun i1 a1 hi1 g1 kk => ?_) 24 (0) (0 : Int32) (by  omega) (Fr.rf _ _) (fun z1 e1 g1 => ?_)
  · skip
    refine UP.stp 2 (i1 := 6) (L1 := [some (.ref 15), some (.int a1), some (.int (Int32.ofNat i1))]) (st1 := [.int 24, .int (Int32.ofNat i1)]) (s1 := s) rfl ?_
    refine UP.icF rfl (ge_F (show i1 < (24 : Int32).toNatClampNeg from hi1)) ?_
    refine UP.stp 4 (i1 := 11) (L1 := [some (.ref 15), some (.int a1), some (.int (Int32.ofNat i1))]) (st1 := [.int (Int32.ofNat i1), .ref 20, .int a1]) (s1 := s) rfl ?_
    refine UP.ald (e := i1) rfl rfl (by omega) ?_
    show UP m_X5_minutesAground 12 [some (.ref 15), some (.int a1), some (.int (Int32.ofNat i1))] [.int (s 20 i1), .int a1] s (Qi s (F_minutesAground_a s))
    refine UP.stp 1 (i1 := 13) (L1 := [some (.ref 15), some (.int a1), some (.int (Int32.ofNat i1))]) (st1 := [.int (a1 + (s 20 i1))]) (s1 := s) rfl ?_
    refine nm (G := fun v2 => UP m_X5_minutesAground 13 [some (.ref 15), some (.int a1), some (.int (Int32.ofNat i1))] [.int v2] s (Qi s (F_minutesAground_a s))) (a1 + (s 20 i1)) (fun v2 e2 => ?_)
    refine UP.stp 3 (i1 := 4) (L1 := [some (.ref 15), some (.int v2), some (.int ((Int32.ofNat i1) + 1))]) (st1 := []) (s1 := s) rfl ?_
    subst e2
    rw [ofn_s]
    try dsimp only [B_minutesAground_a_4] at kk
    exact kk
  refine UP.stp 2 (i1 := 6) (L1 := [some (.ref 15), some (.int z1), some (.int (Int32.ofNat 24))]) (st1 := [.int 24, .int (Int32.ofNat 24)]) (s1 := s) rfl ?_
  refine UP.icT rfl (ge_T (24 : Int32)) ?_
  refine UP.stp 1 (i1 := 17) (L1 := [some (.ref 15), some (.int z1), some (.int (Int32.ofNat 24))]) (st1 := [.int z1]) (s1 := s) rfl ?_
  exact UP.ret (r := some (.int z1)) rfl ⟨by subst e1; first | (dsimp only [F_minutesAground_a]; done) | (dsimp only; done) | rfl, by subst e1; first | (dsimp only [F_minutesAground_a]; done) | (dsimp only; done) | rfl⟩
def W_firstAground_a : List (Nat × Nat × Option Nat) := []
def B_firstAground_a_2 (s : SG) (i1 : Nat) (a1 : Unit) : (Unit) ⊕ (Int32) := bif m_cmp .ne (s 20 i1) 1 then (.inl ()) else (.inr (Int32.ofNat i1))
def F_firstAground_a (s : SG)  : Int32 := Sum.elim (fun z1 : Unit => (-1)) (fun x : Nat × (Int32) => x.2) (itx (B_firstAground_a_2 s) 0 24 ())
set_option maxRecDepth 20000 in
set_option maxHeartbeats 200000 in
theorem ux_firstAground_a (s : SG)   : UP m_X5_firstAground 0 (m_ent 2 [.ref 15]) [] s (Qi s (F_firstAground_a s)) := by
  refine UP.stp 2 (i1 := 2) (L1 := [some (.ref 15), some (.int 0)]) (st1 := []) (s1 := s) rfl ?_
  refine lpx (fun (i1 : Nat) (a1 : Unit) => UP m_X5_firstAground 2 [some (.ref 15), some (.int (Int32.ofNat i1))] [] s (Qi s (F_firstAground_a s))) (fun (_ : Nat) (b1 : Int32) => (F_firstAground_a s) = b1) (fun (_ : Nat) (a1 : Unit) => Fr W_firstAground_a s s) (B_firstAground_a_2 s) (24) (fun i1 a1 x1 hi1 g1 e => g1) (fun i1 a1 hi1 g1 kk => ?_) 24 (0) () (by omega) (Fr.rf _ _) (fun z1 e1 g1 => ?_) (fun i1 a1 b1 e1 hi1 g1 f1 => by have q : (F_firstAground_a s) = Sum.elim (fun z1 : Unit => (-1)) (fun x : Nat × (Int32) => x.2) (itx (B_firstAground_a_2 s) 0 24 ()) := (by first | (dsimp only [F_firstAground_a]; done) | (dsimp only; done) | rfl); rw [q, e1]; first | (dsimp only [Sum.elim_inr]; done) | rfl)
  · skip
    refine UP.stp 2 (i1 := 4) (L1 := [some (.ref 15), some (.int (Int32.ofNat i1))]) (st1 := [.int 24, .int (Int32.ofNat i1)]) (s1 := s) rfl ?_
    refine UP.icF rfl (ge_F (show i1 < (24 : Int32).toNatClampNeg from hi1)) ?_
    refine UP.stp 3 (i1 := 8) (L1 := [some (.ref 15), some (.int (Int32.ofNat i1))]) (st1 := [.int (Int32.ofNat i1), .ref 20]) (s1 := s) rfl ?_
    refine UP.ald (e := i1) rfl rfl (by omega) ?_
    show UP m_X5_firstAground 9 [some (.ref 15), some (.int (Int32.ofNat i1))] [.int (s 20 i1)] s (Qi s (F_firstAground_a s))
    refine UP.stp 1 (i1 := 10) (L1 := [some (.ref 15), some (.int (Int32.ofNat i1))]) (st1 := [.int 1, .int (s 20 i1)]) (s1 := s) rfl ?_
    refine brk (K := (Kx (fun (i1 : Nat) (a1 : Unit) => UP m_X5_firstAground 2 [some (.ref 15), some (.int (Int32.ofNat i1))] [] s (Qi s (F_firstAground_a s))) (fun (_ : Nat) (b1 : Int32) => (F_firstAground_a s) = b1) i1)) (m_cmp .ne (s 20 i1) 1) (.inl ()) (.inr (Int32.ofNat i1)) (by (try dsimp only [B_firstAground_a_2] at kk ⊢); exact kk) (fun cc kk => ?_) (fun cc kk => ?_)
    · skip
      refine UP.icT rfl cc ?_
      refine UP.stp 2 (i1 := 2) (L1 := [some (.ref 15), some (.int ((Int32.ofNat i1) + 1))]) (st1 := []) (s1 := s) rfl ?_
      rw [ofn_s]
      exact kk
    · skip
      refine UP.icF rfl cc ?_
      refine UP.stp 1 (i1 := 12) (L1 := [some (.ref 15), some (.int (Int32.ofNat i1))]) (st1 := [.int (Int32.ofNat i1)]) (s1 := s) rfl ?_
      have kk : (F_firstAground_a s) = Int32.ofNat i1 := by exact kk
      exact UP.ret (r := some (.int (Int32.ofNat i1))) rfl ⟨by rw [kk], rfl⟩
  · skip
    refine UP.eqT ((-1)) (by have q : (F_firstAground_a s) = Sum.elim (fun z1 : Unit => (-1)) (fun x : Nat × (Int32) => x.2) (itx (B_firstAground_a_2 s) 0 24 ()) := (by first | (dsimp only [F_firstAground_a]; done) | (dsimp only; done) | rfl); rw [q, e1]; first | (dsimp only [Sum.elim_inl]; done) | rfl) ?_
    refine UP.stp 2 (i1 := 4) (L1 := [some (.ref 15), some (.int (Int32.ofNat 24))]) (st1 := [.int 24, .int (Int32.ofNat 24)]) (s1 := s) rfl ?_
    refine UP.icT rfl (ge_T (24 : Int32)) ?_
    refine UP.stp 1 (i1 := 16) (L1 := [some (.ref 15), some (.int (Int32.ofNat 24))]) (st1 := [.int (-1)]) (s1 := s) rfl ?_
    exact UP.ret (r := some (.int (-1))) rfl ⟨by first | (dsimp only [F_firstAground_a]; done) | (dsimp only; done) | rfl, by first | (dsimp only [F_firstAground_a]; done) | (dsimp only; done) | rfl⟩
def W_lastStray_a : List (Nat × Nat × Option Nat) := []
def F_lastStray_a (s : SG)  : Int32 := (if 0 ≤ ((s 17 23) - 10) then ((s 17 23) - 10) else 0 - ((s 17 23) - 10))
set_option maxRecDepth 20000 in
set_option maxHeartbeats 200000 in
theorem ux_lastStray_a (s : SG)   : UP m_X5_lastStray 0 (m_ent 1 [.ref 15]) [] s (Qi s (F_lastStray_a s)) := by
  refine UP.stp 7 (i1 := 7) (L1 := [some (.ref 15)]) (st1 := [.int (if 0 ≤ ((s 17 23) - 10) then ((s 17 23) - 10) else 0 - ((s 17 23) - 10))]) (s1 := s) rfl ?_
  exact UP.ret (r := some (.int (if 0 ≤ ((s 17 23) - 10) then ((s 17 23) - 10) else 0 - ((s 17 23) - 10)))) rfl ⟨by first | (dsimp only [F_lastStray_a]; done) | (dsimp only; done) | rfl, by first | (dsimp only [F_lastStray_a]; done) | (dsimp only; done) | rfl⟩
