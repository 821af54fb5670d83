def W_farthestStray_a : List (Nat × Nat × Option Nat) := []
def B_farthestStray_a_4 (s : SG) (i1 : Nat) (a1 : Int32) : Int32 := let v2 := (if a1 < (if 0 ≤ ((s 17 i1) - 10) then ((s 17 i1) - 10) else 0 - ((s 17 i1) - 10)) then (if 0 ≤ ((s 17 i1) - 10) then ((s 17 i1) - 10) else 0 - ((s 17 i1) - 10)) else a1); v2
def F_farthestStray_a (s : SG)  : Int32 := let z1 := itr (B_farthestStray_a_4 s) 0 24 (0 : Int32); z1
set_option maxRecDepth 20000 in
set_option maxHeartbeats 200000 in
theorem ux_farthestStray_a (s : SG)   : UP m_X5_farthestStray 0 (m_ent 3 [.ref 15]) [] s (Qi s (F_farthestStray_a s)) := by
  refine UP.stp 4 (i1 := 4) (L1 := [some (.ref 15), some (.int 0), some (.int 0)]) (st1 := []) (s1 := s) rfl ?_
  refine lp (fun (i1 : Nat) (a1 : Int32) => UP m_X5_farthestStray 4 [some (.ref 15), some (.int a1), some (.int (Int32.ofNat i1))] [] s (Qi s (F_farthestStray_a s))) (fun (_ : Nat) (a1 : Int32) => Fr W_farthestStray_a s s) (B_farthestStray_a_4 s) (24) (fun i1 a1 hi1 g1 => g1) (fun i1 a1 hi1 g1 kk => ?_) 24 (0) (0 : Int32) (by  omega) (Fr.rf _ _) (fun z1 e1 g1 => ?_)
  · skip
    refine UP.stp 2 (i1 := 6) (L1 := [some (.ref 15), some (.int a1), some (.int (Int32.ofNat i1))]) (st1 := [.int 24, .int (Int32.ofNat i1)]) (s1 := s) rfl ?_
    refine UP.icF rfl (ge_F (show i1 < (24 : Int32).toNatClampNeg from hi1)) ?_
    refine UP.stp 4 (i1 := 11) (L1 := [some (.ref 15), some (.int a1), some (.int (Int32.ofNat i1))]) (st1 := [.int (Int32.ofNat i1), .ref 17, .int a1]) (s1 := s) rfl ?_
    refine UP.ald (e := i1) rfl rfl (by omega) ?_
    show UP m_X5_farthestStray 12 [some (.ref 15), some (.int a1), some (.int (Int32.ofNat i1))] [.int (s 17 i1), .int a1] s (Qi s (F_farthestStray_a s))
    refine UP.stp 4 (i1 := 16) (L1 := [some (.ref 15), some (.int a1), some (.int (Int32.ofNat i1))]) (st1 := [.int (if a1 < (if 0 ≤ ((s 17 i1) - 10) then ((s 17 i1) - 10) else 0 - ((s 17 i1) - 10)) then (if 0 ≤ ((s 17 i1) - 10) then ((s 17 i1) - 10) else 0 - ((s 17 i1) - 10)) else a1)]) (s1 := s) rfl ?_
    refine nm (G := fun v2 => UP m_X5_farthestStray 16 [some (.ref 15), some (.int a1), some (.int (Int32.ofNat i1))] [.int v2] s (Qi s (F_farthestStray_a s))) (if a1 < (if 0 ≤ ((s 17 i1) - 10) then ((s 17 i1) - 10) else 0 - ((s 17 i1) - 10)) then (if 0 ≤ ((s 17 i1) - 10) then ((s 17 i1) - 10) else 0 - ((s 17 i1) - 10)) else a1) (fun v2 e2 => ?_)
    refine UP.stp 3 (i1 := 4) (L1 := [some (.ref 15), some (.int v2), some (.int ((Int32.ofNat i1) + 1))]) (st1 := []) (s1 := s) rfl ?_
    subst e2
    rw [ofn_s]
    try dsimp only [B_farthestStray_a_4] at kk
    exact kk
  refine UP.stp 2 (i1 := 6) (L1 := [some (.ref 15), some (.int z1), some (.int (Int32.ofNat 24))]) (st1 := [.int 24, .int (Int32.ofNat 24)]) (s1 := s) rfl ?_
  refine UP.icT rfl (ge_T (24 : Int32)) ?_
  refine UP.stp 1 (i1 := 20) (L1 := [some (.ref 15), some (.int z1), some (.int (Int32.ofNat 24))]) (st1 := [.int z1]) (s1 := s) rfl ?_
  exact UP.ret (r := some (.int z1)) rfl ⟨by subst e1; first | (dsimp only [F_farthestStray_a]; done) | (dsimp only; done) | rfl, by subst e1; first | (dsimp only [F_farthestStray_a]; done) | (dsimp only; done) | rfl⟩
def W_minutesAground_b : List (Nat × Nat × Option Nat) := []
def B_minutesAground_b_4 (s : SG) (i1 : Nat) (a1 : Int32) : Int32 := let v2 := a1 + (s 63 i1); v2
def F_minutesAground_b (s : SG)  : Int32 := let z1 := itr (B_minutesAground_b_4 s) 0 24 (0 : Int32); z1
set_option maxRecDepth 20000 in
set_option maxHeartbeats 200000 in
theorem ux_minutesAground_b (s : SG)   : UP m_X5_minutesAground 0 (m_ent 3 [.ref 58]) [] s (Qi s (F_minutesAground_b s)) := by
  refine UP.stp 4 (i1 := 4) (L1 := [some (.ref 58), some (.int 0), some (.int 0)]) (st1 := []) (s1 := s) rfl ?_
  refine lp (fun (i1 : Nat) (a1 : Int32) => UP m_X5_minutesAground 4 [some (.ref 58), some (.int a1), some (.int (Int32.ofNat i1))] [] s (Qi s (F_minutesAground_b s))) (fun (_ : Nat) (a1 : Int32) => Fr W_minutesAground_b s s) (B_minutesAground_b_4 s) (24) (fun i1 a1 hi1 g1 => g1) (fun i1 a1 hi1 g1 kk => ?_) 24 (0) (0 : Int32) (by  omega) (Fr.rf _ _) (fun z1 e1 g1 => ?_)
  · skip
    refine UP.stp 2 (i1 := 6) (L1 := [some (.ref 58), some (.int a1), some (.int (Int32.ofNat i1))]) (st1 := [.int 24, .int (Int32.ofNat i1)]) (s1 := s) rfl ?_
    refine UP.icF rfl (ge_F (show i1 < (24 : Int32).toNatClampNeg from hi1)) ?_
    refine UP.stp 4 (i1 := 11) (L1 := [some (.ref 58), some (.int a1), some (.int (Int32.ofNat i1))]) (st1 := [.int (Int32.ofNat i1), .ref 63, .int a1]) (s1 := s) rfl ?_
    refine UP.ald (e := i1) rfl rfl (by omega) ?_
    show UP m_X5_minutesAground 12 [some (.ref 58), some (.int a1), some (.int (Int32.ofNat i1))] [.int (s 63 i1), .int a1] s (Qi s (F_minutesAground_b s))
    refine UP.stp 1 (i1 := 13) (L1 := [some (.ref 58), some (.int a1), some (.int (Int32.ofNat i1))]) (st1 := [.int (a1 + (s 63 i1))]) (s1 := s) rfl ?_
    refine nm (G := fun v2 => UP m_X5_minutesAground 13 [some (.ref 58), some (.int a1), some (.int (Int32.ofNat i1))] [.int v2] s (Qi s (F_minutesAground_b s))) (a1 + (s 63 i1)) (fun v2 e2 => ?_)
    refine UP.stp 3 (i1 := 4) (L1 := [some (.ref 58), some (.int v2), some (.int ((Int32.ofNat i1) + 1))]) (st1 := []) (s1 := s) rfl ?_
    subst e2
    rw [ofn_s]
    try dsimp only [B_minutesAground_b_4] at kk
    exact kk
  refine UP.stp 2 (i1 := 6) (L1 := [some (.ref 58), some (.int z1), some (.int (Int32.ofNat 24))]) (st1 := [.int 24, .int (Int32.ofNat 24)]) (s1 := s) rfl ?_
  refine UP.icT rfl (ge_T (24 : Int32)) ?_
  refine UP.stp 1 (i1 := 17) (L1 := [some (.ref 58), some (.int z1), some (.int (Int32.ofNat 24))]) (st1 := [.int z1]) (s1 := s) rfl ?_
  exact UP.ret (r := some (.int z1)) rfl ⟨by subst e1; first | (dsimp only [F_minutesAground_b]; done) | (dsimp only; done) | rfl, by subst e1; first | (dsimp only [F_minutesAground_b]; done) | (dsimp only; done) | rfl⟩
def W_firstAground_b : List (Nat × Nat × Option Nat) := []
def B_firstAground_b_2 (s : SG) (i1 : Nat) (a1 : Unit) : (Unit) ⊕ (Int32) := bif m_cmp .ne (s 63 i1) 1 then (.inl ()) else (.inr (Int32.ofNat i1))
def F_firstAground_b (s : SG)  : Int32 := Sum.elim (fun z1 : Unit => (-1)) (fun x : Nat × (Int32) => x.2) (itx (B_firstAground_b_2 s) 0 24 ())
set_option maxRecDepth 20000 in
set_option maxHeartbeats 200000 in
theorem ux_firstAground_b (s : SG)   : UP m_X5_firstAground 0 (m_ent 2 [.ref 58]) [] s (Qi s (F_firstAground_b s)) := by
  refine UP.stp 2 (i1 := 2) (L1 := [some (.ref 58), some (.int 0)]) (st1 := []) (s1 := s) rfl ?_
  refine lpx (fun (i1 : Nat) (a1 : Unit) => UP m_X5_firstAground 2 [some (.ref 58), some (.int (Int32.ofNat i1))] [] s (Qi s (F_firstAground_b s))) (fun (_ : Nat) (b1 : Int32) => (F_firstAground_b s) = b1) (fun (_ : Nat) (a1 : Unit) => Fr W_firstAground_b s s) (B_firstAground_b_2 s) (24) (fun i1 a1 x1 hi1 g1 e => g1) (fun i1 a1 hi1 g1 kk => ?_) 24 (0) () (by omega) (Fr.rf _ _) (fun z1 e1 g1 => ?_) (fun i1 a1 b1 e1 hi1 g1 f1 => by have q : (F_firstAground_b s) = Sum.elim (fun z1 : Unit => (-1)) (fun x : Nat × (Int32) => x.2) (itx (B_firstAground_b_2 s) 0 24 ()) := (by first | (dsimp only [F_firstAground_b]; done) | (dsimp only; done) | rfl); rw [q, e1]; first | (dsimp only [Sum.elim_inr]; done) | rfl)
  · skip
    refine UP.stp 2 (i1 := 4) (L1 := [some (.ref 58), some (.int (Int32.ofNat i1))]) (st1 := [.int 24, .int (Int32.ofNat i1)]) (s1 := s) rfl ?_
    refine UP.icF rfl (ge_F (show i1 < (24 : Int32).toNatClampNeg from hi1)) ?_
    refine UP.stp 3 (i1 := 8) (L1 := [some (.ref 58), some (.int (Int32.ofNat i1))]) (st1 := [.int (Int32.ofNat i1), .ref 63]) (s1 := s) rfl ?_
    refine UP.ald (e := i1) rfl rfl (by omega) ?_
    show UP m_X5_firstAground 9 [some (.ref 58), some (.int (Int32.ofNat i1))] [.int (s 63 i1)] s (Qi s (F_firstAground_b s))
    refine UP.stp 1 (i1 := 10) (L1 := [some (.ref 58), some (.int (Int32.ofNat i1))]) (st1 := [.int 1, .int (s 63 i1)]) (s1 := s) rfl ?_
    refine brk (K := (Kx (fun (i1 : Nat) (a1 : Unit) => UP m_X5_firstAground 2 [some (.ref 58), some (.int (Int32.ofNat i1))] [] s (Qi s (F_firstAground_b s))) (fun (_ : Nat) (b1 : Int32) => (F_firstAground_b s) = b1) i1)) (m_cmp .ne (s 63 i1) 1) (.inl ()) (.inr (Int32.ofNat i1)) (by (try dsimp only [B_firstAground_b_2] at kk ⊢); exact kk) (fun cc kk => ?_) (fun cc kk => ?_)
    · skip
      refine UP.icT rfl cc ?_
      refine UP.stp 2 (i1 := 2) (L1 := [some (.ref 58), some (.int ((Int32.ofNat i1) + 1))]) (st1 := []) (s1 := s) rfl ?_
      rw [ofn_s]
      exact kk
    · skip
      refine UP.icF rfl cc ?_
      refine UP.stp 1 (i1 := 12) (L1 := [some (.ref 58), some (.int (Int32.ofNat i1))]) (st1 := [.int (Int32.ofNat i1)]) (s1 := s) rfl ?_
      have kk : (F_firstAground_b s) = Int32.ofNat i1 := by exact kk
      exact UP.ret (r := some (.int (Int32.ofNat i1))) rfl ⟨by rw [kk], rfl⟩
  · skip
    refine UP.eqT ((-1)) (by have q : (F_firstAground_b s) = Sum.elim (fun z1 : Unit => (-1)) (fun x : Nat × (Int32) => x.2) (itx (B_firstAground_b_2 s) 0 24 ()) := (by first | (dsimp only [F_firstAground_b]; done) | (dsimp only; done) | rfl); rw [q, e1]; first | (dsimp only [Sum.elim_inl]; done) | rfl) ?_
    refine UP.stp 2 (i1 := 4) (L1 := [some (.ref 58), some (.int (Int32.ofNat 24))]) (st1 := [.int 24, .int (Int32.ofNat 24)]) (s1 := s) rfl ?_
    refine UP.icT rfl (ge_T (24 : Int32)) ?_
    refine UP.stp 1 (i1 := 16) (L1 := [some (.ref 58), some (.int (Int32.ofNat 24))]) (st1 := [.int (-1)]) (s1 := s) rfl ?_
    exact UP.ret (r := some (.int (-1))) rfl ⟨by first | (dsimp only [F_firstAground_b]; done) | (dsimp only; done) | rfl, by first | (dsimp only [F_firstAground_b]; done) | (dsimp only; done) | rfl⟩
def W_lastStray_b : List (Nat × Nat × Option Nat) := []
def F_lastStray_b (s : SG)  : Int32 := (if 0 ≤ ((s 60 23) - 10) then ((s 60 23) - 10) else 0 - ((s 60 23) - 10))
set_option maxRecDepth 20000 in
set_option maxHeartbeats 200000 in
theorem ux_lastStray_b (s : SG)   : UP m_X5_lastStray 0 (m_ent 1 [.ref 58]) [] s (Qi s (F_lastStray_b s)) := by
  refine UP.stp 7 (i1 := 7) (L1 := [some (.ref 58)]) (st1 := [.int (if 0 ≤ ((s 60 23) - 10) then ((s 60 23) - 10) else 0 - ((s 60 23) - 10))]) (s1 := s) rfl ?_
  exact UP.ret (r := some (.int (if 0 ≤ ((s 60 23) - 10) then ((s 60 23) - 10) else 0 - ((s 60 23) - 10)))) rfl ⟨by first | (dsimp only [F_lastStray_b]; done) | (dsimp only; done) | rfl, by first | (dsimp only [F_lastStray_b]; done) | (dsimp only; done) | rfl⟩
