def W_firstAground_a : List (Nat × Nat × Option Nat) := []
def B_firstAground_a_2 (s : SG) (i1 : Nat) (a1 : Unit) : (Unit) ⊕ (Int32) := bif m_cmp .ne (s 20 i1) 1 then (.inl ()) else (.inr (Int32.ofNat i1))
def F_firstAground_a (s : SG)  : Int32 := Sum.elim (fun z1 : Unit => (-1)) (fun x : Nat × (Int32) => x.2) (itx (B_firstAground_a_2 s) 0 24 ())
theorem ux_firstAground_a (s : SG)   : UP m_X5_firstAground 0 (m_ent 2 [.ref 15]) [] s (Qi s (F_firstAground_a s)) := by
  refine UP.stp 2 (i1 := 2) (L1 := [some (.ref 15), some (.int 0)]) (st1 := []) (s1 := s) rfl ?_
  refine lpx (fun (i1 : Nat) (a1 : Unit) => UP m_X5_firstAground 2 [some (.ref 15), some (.int (Int32.ofNat i1))] [] s (Qi s (F_firstAground_a s))) (fun (_ : Nat) (b1 : Int32) => (F_firstAground_a s) = b1) (fun (_ : Nat) (a1 : Unit) => Fr W_firstAground_a s s) (B_firstAground_a_2 s) (24) (fun i1 a1 x1 hi1 g1 e => g1) (fun i1 a1 hi1 g1 kk => ?_) 24 (0) () (by omega) (Fr.rf _ _) (fun z1 e1 g1 => ?_) (fun i1 a1 b1 e1 hi1 g1 f1 => by have q : (F_firstAground_a s) = Sum.elim (fun z1 : Unit => (-1)) (fun x : Nat × (Int32) => x.2) (itx (B_firstAground_a_2 s) 0 24 ()) := (by rfl); rw [q, e1]; rfl)
  · skip
    refine UP.stp 2 (i1 := 4) (L1 := [some (.ref 15), some (.int (Int32.ofNat i1))]) (st1 := [.int 24, .int (Int32.ofNat i1)]) (s1 := s) rfl ?_
    refine UP.icF rfl (ge_F (show i1 < (24 : Int32).toNatClampNeg from hi1)) ?_
    refine UP.stp 3 (i1 := 8) (L1 := [some (.ref 15), some (.int (Int32.ofNat i1))]) (st1 := [.int (Int32.ofNat i1), .ref 20]) (s1 := s) rfl ?_
    refine UP.ald (e := i1) rfl rfl (by omega) ?_
    show UP m_X5_firstAground 9 [some (.ref 15), some (.int (Int32.ofNat i1))] [.int (s 20 i1)] s (Qi s (F_firstAground_a s))
    refine UP.stp 1 (i1 := 10) (L1 := [some (.ref 15), some (.int (Int32.ofNat i1))]) (st1 := [.int 1, .int (s 20 i1)]) (s1 := s) rfl ?_
    refine brk (K := (Kx (fun (i1 : Nat) (a1 : Unit) => UP m_X5_firstAground 2 [some (.ref 15), some (.int (Int32.ofNat i1))] [] s (Qi s (F_firstAground_a s))) (fun (_ : Nat) (b1 : Int32) => (F_firstAground_a s) = b1) i1)) (m_cmp .ne (s 20 i1) 1) (.inl ()) (.inr (Int32.ofNat i1)) (by exact kk) (fun cc kk => ?_) (fun cc kk => ?_)
    · skip
      refine UP.icT rfl cc ?_
      refine UP.stp 2 (i1 := 2) (L1 := [some (.ref 15), some (.int ((Int32.ofNat i1) + 1))]) (st1 := []) (s1 := s) rfl ?_
      rw [ofn_s]
      exact kk
    · skip
      refine UP.icF rfl cc ?_
      refine UP.stp 1 (i1 := 12) (L1 := [some (.ref 15), some (.int (Int32.ofNat i1))]) (st1 := [.int (Int32.ofNat i1)]) (s1 := s) rfl ?_
      have kk : (F_firstAground_a s) = Int32.ofNat i1 := by exact kk
      exact UP.ret (r := some (.int (Int32.ofNat i1))) rfl ⟨by rw [kk], by rw [kk]⟩
  · skip
    refine UP.eqT ((-1)) (by have q : (F_firstAground_a s) = Sum.elim (fun z1 : Unit => (-1)) (fun x : Nat × (Int32) => x.2) (itx (B_firstAground_a_2 s) 0 24 ()) := (by rfl); rw [q, e1]; rfl) ?_
    refine UP.stp 2 (i1 := 4) (L1 := [some (.ref 15), some (.int (Int32.ofNat 24))]) (st1 := [.int 24, .int (Int32.ofNat 24)]) (s1 := s) rfl ?_
    refine UP.icT rfl (ge_T (24 : Int32)) ?_
    refine UP.stp 1 (i1 := 16) (L1 := [some (.ref 15), some (.int (Int32.ofNat 24))]) (st1 := [.int (-1)]) (s1 := s) rfl ?_
    exact UP.ret (r := some (.int (-1))) rfl ⟨by rfl, by rfl⟩
def W_lastStray_a : List (Nat × Nat × Option Nat) := []
def F_lastStray_a (s : SG)  : Int32 := (if 0 ≤ ((s 17 23) - 10) then ((s 17 23) - 10) else 0 - ((s 17 23) - 10))
theorem ux_lastStray_a (s : SG)   : UP m_X5_lastStray 0 (m_ent 1 [.ref 15]) [] s (Qi s (F_lastStray_a s)) := by
  refine UP.stp 7 (i1 := 7) (L1 := [some (.ref 15)]) (st1 := [.int (if 0 ≤ ((s 17 23) - 10) then ((s 17 23) - 10) else 0 - ((s 17 23) - 10))]) (s1 := s) rfl ?_
  exact UP.ret (r := some (.int (if 0 ≤ ((s 17 23) - 10) then ((s 17 23) - 10) else 0 - ((s 17 23) - 10)))) rfl ⟨by rfl, by rfl⟩
def W_farthestStray_a : List (Nat × Nat × Option Nat) := []
def B_farthestStray_a_4 (s : SG) (i1 : Nat) (a1 : Int32) : Int32 := let v2 := (if a1 < (if 0 ≤ ((s 17 i1) - 10) then ((s 17 i1) - 10) else 0 - ((s 17 i1) - 10)) then (if 0 ≤ ((s 17 i1) - 10) then ((s 17 i1) - 10) else 0 - ((s 17 i1) - 10)) else a1); v2
def F_farthestStray_a (s : SG)  : Int32 := let z1 := itr (B_farthestStray_a_4 s) 0 24 (0 : Int32); z1
theorem ux_farthestStray_a (s : SG)   : UP m_X5_farthestStray 0 (m_ent 3 [.ref 15]) [] s (Qi s (F_farthestStray_a s)) := by
  refine UP.stp 4 (i1 := 4) (L1 := [some (.ref 15), some (.int 0), some (.int 0)]) (st1 := []) (s1 := s) rfl ?_
  refine lp (fun (i1 : Nat) (a1 : Int32) => UP m_X5_farthestStray 4 [some (.ref 15), some (.int a1), some (.int (Int32.ofNat i1))] [] s (Qi s (F_farthestStray_a s))) (fun (_ : Nat) (a1 : Int32) => Fr W_farthestStray_a s s) (B_farthestStray_a_4 s) (24) (fun i1 a1 hi1 g1 => g1) (fun i1 a1 hi1 g1 kk => ?_) 24 (0) (0 : Int32) (by omega) (Fr.rf _ _) (fun z1 e1 g1 => ?_)
  · skip
    refine UP.stp 2 (i1 := 6) (L1 := [some (.ref 15), some (.int a1), some (.int (Int32.ofNat i1))]) (st1 := [.int 24, .int (Int32.ofNat i1)]) (s1 := s) rfl ?_
    refine UP.icF rfl (ge_F (show i1 < (24 : Int32).toNatClampNeg from hi1)) ?_
    refine UP.stp 4 (i1 := 11) (L1 := [some (.ref 15), some (.int a1), some (.int (Int32.ofNat i1))]) (st1 := [.int (Int32.ofNat i1), .ref 17, .int a1]) (s1 := s) rfl ?_
    refine UP.ald (e := i1) rfl rfl (by omega) ?_
    show UP m_X5_farthestStray 12 [some (.ref 15), some (.int a1), some (.int (Int32.ofNat i1))] [.int (s 17 i1), .int a1] s (Qi s (F_farthestStray_a s))
    refine UP.stp 4 (i1 := 16) (L1 := [some (.ref 15), some (.int a1), some (.int (Int32.ofNat i1))]) (st1 := [.int (if a1 < (if 0 ≤ ((s 17 i1) - 10) then ((s 17 i1) - 10) else 0 - ((s 17 i1) - 10)) then (if 0 ≤ ((s 17 i1) - 10) then ((s 17 i1) - 10) else 0 - ((s 17 i1) - 10)) else a1)]) (s1 := s) rfl ?_
    refine nm (G := fun v2 => UP m_X5_farthestStray 16 [some (.ref 15), some (.int a1), some (.int (Int32.ofNat i1))] [.int v2] s (Qi s (F_farthestStray_a s))) (if a1 < (if 0 ≤ ((s 17 i1) - 10) then ((s 17 i1) - 10) else 0 - ((s 17 i1) - 10)) then (if 0 ≤ ((s 17 i1) - 10) then ((s 17 i1) - 10) else 0 - ((s 17 i1) - 10)) else a1) (fun v2 e2 => ?_)
    refine UP.stp 3 (i1 := 4) (L1 := [some (.ref 15), some (.int v2), some (.int ((Int32.ofNat i1) + 1))]) (st1 := []) (s1 := s) rfl ?_
    subst e2
    rw [ofn_s]
    exact kk
  refine UP.stp 2 (i1 := 6) (L1 := [some (.ref 15), some (.int z1), some (.int (Int32.ofNat 24))]) (st1 := [.int 24, .int (Int32.ofNat 24)]) (s1 := s) rfl ?_
  refine UP.icT rfl (ge_T (24 : Int32)) ?_
  refine UP.stp 1 (i1 := 20) (L1 := [some (.ref 15), some (.int z1), some (.int (Int32.ofNat 24))]) (st1 := [.int z1]) (s1 := s) rfl ?_
  exact UP.ret (r := some (.int z1)) rfl ⟨by subst e1; rfl, by subst e1; rfl⟩
def W_minutesAground_b : List (Nat × Nat × Option Nat) := []
def B_minutesAground_b_4 (s : SG) (i1 : Nat) (a1 : Int32) : Int32 := let v2 := a1 + (s 63 i1); v2
def F_minutesAground_b (s : SG)  : Int32 := let z1 := itr (B_minutesAground_b_4 s) 0 24 (0 : Int32); z1
theorem ux_minutesAground_b (s : SG)   : UP m_X5_minutesAground 0 (m_ent 3 [.ref 58]) [] s (Qi s (F_minutesAground_b s)) := by
  refine UP.stp 4 (i1 := 4) (L1 := [some (.ref 58), some (.int 0), some (.int 0)]) (st1 := []) (s1 := s) rfl ?_
  refine lp (fun (i1 : Nat) (a1 : Int32) => UP m_X5_minutesAground 4 [some (.ref 58), some (.int a1), some (.int (Int32.ofNat i1))] [] s (Qi s (F_minutesAground_b s))) (fun (_ : Nat) (a1 : Int32) => Fr W_minutesAground_b s s) (B_minutesAground_b_4 s) (24) (fun i1 a1 hi1 g1 => g1) (fun i1 a1 hi1 g1 kk => ?_) 24 (0) (0 : Int32) (by omega) (Fr.rf _ _) (fun z1 e1 g1 => ?_)
  · skip
    refine UP.stp 2 (i1 := 6) (L1 := [some (.ref 58), some (.int a1), some (.int (Int32.ofNat i1))]) (st1 := [.int 24, .int (Int32.ofNat i1)]) (s1 := s) rfl ?_
    refine UP.icF rfl (ge_F (show i1 < (24 : Int32).toNatClampNeg from hi1)) ?_
    refine UP.stp 4 (i1 := 11) (L1 := [some (.ref 58), some (.int a1), some (.int (Int32.ofNat i1))]) (st1 := [.int (Int32.ofNat i1), .ref 63, .int a1]) (s1 := s) rfl ?_
    refine UP.ald (e := i1) rfl rfl (by omega) ?_
    show UP m_X5_minutesAground 12 [some (.ref 58), some (.int a1), some (.int (Int32.ofNat i1))] [.int (s 63 i1), .int a1] s (Qi s (F_minutesAground_b s))
    refine UP.stp 1 (i1 := 13) (L1 := [some (.ref 58), some (.int a1), some (.int (Int32.ofNat i1))]) (st1 := [.int (a1 + (s 63 i1))]) (s1 := s) rfl ?_
    refine nm (G := fun v2 => UP m_X5_minutesAground 13 [some (.ref 58), some (.int a1), some (.int (Int32.ofNat i1))] [.int v2] s (Qi s (F_minutesAground_b s))) (a1 + (s 63 i1)) (fun v2 e2 => ?_)
    refine UP.stp 3 (i1 := 4) (L1 := [some (.ref 58), some (.int v2), some (.int ((Int32.ofNat i1) + 1))]) (st1 := []) (s1 := s) rfl ?_
    subst e2
    rw [ofn_s]
    exact kk
  refine UP.stp 2 (i1 := 6) (L1 := [some (.ref 58), some (.int z1), some (.int (Int32.ofNat 24))]) (st1 := [.int 24, .int (Int32.ofNat 24)]) (s1 := s) rfl ?_
  refine UP.icT rfl (ge_T (24 : Int32)) ?_
  refine UP.stp 1 (i1 := 17) (L1 := [some (.ref 58), some (.int z1), some (.int (Int32.ofNat 24))]) (st1 := [.int z1]) (s1 := s) rfl ?_
  exact UP.ret (r := some (.int z1)) rfl ⟨by subst e1; rfl, by subst e1; rfl⟩
def W_firstAground_b : List (Nat × Nat × Option Nat) := []
def B_firstAground_b_2 (s : SG) (i1 : Nat) (a1 : Unit) : (Unit) ⊕ (Int32) := bif m_cmp .ne (s 63 i1) 1 then (.inl ()) else (.inr (Int32.ofNat i1))
def F_firstAground_b (s : SG)  : Int32 := Sum.elim (fun z1 : Unit => (-1)) (fun x : Nat × (Int32) => x.2) (itx (B_firstAground_b_2 s) 0 24 ())
theorem ux_firstAground_b (s : SG)   : UP m_X5_firstAground 0 (m_ent 2 [.ref 58]) [] s (Qi s (F_firstAground_b s)) := by
  refine UP.stp 2 (i1 := 2) (L1 := [some (.ref 58), some (.int 0)]) (st1 := []) (s1 := s) rfl ?_
  refine lpx (fun (i1 : Nat) (a1 : Unit) => UP m_X5_firstAground 2 [some (.ref 58), some (.int (Int32.ofNat i1))] [] s (Qi s (F_firstAground_b s))) (fun (_ : Nat) (b1 : Int32) => (F_firstAground_b s) = b1) (fun (_ : Nat) (a1 : Unit) => Fr W_firstAground_b s s) (B_firstAground_b_2 s) (24) (fun i1 a1 x1 hi1 g1 e => g1) (fun i1 a1 hi1 g1 kk => ?_) 24 (0) () (by omega) (Fr.rf _ _) (fun z1 e1 g1 => ?_) (fun i1 a1 b1 e1 hi1 g1 f1 => by have q : (F_firstAground_b s) = Sum.elim (fun z1 : Unit => (-1)) (fun x : Nat × (Int32) => x.2) (itx (B_firstAground_b_2 s) 0 24 ()) := (by rfl); rw [q, e1]; rfl)
  · skip
    refine UP.stp 2 (i1 := 4) (L1 := [some (.ref 58), some (.int (Int32.ofNat i1))]) (st1 := [.int 24, .int (Int32.ofNat i1)]) (s1 := s) rfl ?_
    refine UP.icF rfl (ge_F (show i1 < (24 : Int32).toNatClampNeg from hi1)) ?_
    refine UP.stp 3 (i1 := 8) (L1 := [some (.ref 58), some (.int (Int32.ofNat i1))]) (st1 := [.int (Int32.ofNat i1), .ref 63]) (s1 := s) rfl ?_
    refine UP.ald (e := i1) rfl rfl (by omega) ?_
    show UP m_X5_firstAground 9 [some (.ref 58), some (.int (Int32.ofNat i1))] [.int (s 63 i1)] s (Qi s (F_firstAground_b s))
    refine UP.stp 1 (i1 := 10) (L1 := [some (.ref 58), some (.int (Int32.ofNat i1))]) (st1 := [.int 1, .int (s 63 i1)]) (s1 := s) rfl ?_
    refine brk (K := (Kx (fun (i1 : Nat) (a1 : Unit) => UP m_X5_firstAground 2 [some (.ref 58), some (.int (Int32.ofNat i1))] [] s (Qi s (F_firstAground_b s))) (fun (_ : Nat) (b1 : Int32) => (F_firstAground_b s) = b1) i1)) (m_cmp .ne (s 63 i1) 1) (.inl ()) (.inr (Int32.ofNat i1)) (by exact kk) (fun cc kk => ?_) (fun cc kk => ?_)
    · skip
      refine UP.icT rfl cc ?_
      refine UP.stp 2 (i1 := 2) (L1 := [some (.ref 58), some (.int ((Int32.ofNat i1) + 1))]) (st1 := []) (s1 := s) rfl ?_
      rw [ofn_s]
      exact kk
    · skip
      refine UP.icF rfl cc ?_
      refine UP.stp 1 (i1 := 12) (L1 := [some (.ref 58), some (.int (Int32.ofNat i1))]) (st1 := [.int (Int32.ofNat i1)]) (s1 := s) rfl ?_
      have kk : (F_firstAground_b s) = Int32.ofNat i1 := by exact kk
      exact UP.ret (r := some (.int (Int32.ofNat i1))) rfl ⟨by rw [kk], by rw [kk]⟩
  · skip
    refine UP.eqT ((-1)) (by have q : (F_firstAground_b s) = Sum.elim (fun z1 : Unit => (-1)) (fun x : Nat × (Int32) => x.2) (itx (B_firstAground_b_2 s) 0 24 ()) := (by rfl); rw [q, e1]; rfl) ?_
    refine UP.stp 2 (i1 := 4) (L1 := [some (.ref 58), some (.int (Int32.ofNat 24))]) (st1 := [.int 24, .int (Int32.ofNat 24)]) (s1 := s) rfl ?_
    refine UP.icT rfl (ge_T (24 : Int32)) ?_
    refine UP.stp 1 (i1 := 16) (L1 := [some (.ref 58), some (.int (Int32.ofNat 24))]) (st1 := [.int (-1)]) (s1 := s) rfl ?_
    exact UP.ret (r := some (.int (-1))) rfl ⟨by rfl, by rfl⟩
def W_lastStray_b : List (Nat × Nat × Option Nat) := []
def F_lastStray_b (s : SG)  : Int32 := (if 0 ≤ ((s 60 23) - 10) then ((s 60 23) - 10) else 0 - ((s 60 23) - 10))
theorem ux_lastStray_b (s : SG)   : UP m_X5_lastStray 0 (m_ent 1 [.ref 58]) [] s (Qi s (F_lastStray_b s)) := by
  refine UP.stp 7 (i1 := 7) (L1 := [some (.ref 58)]) (st1 := [.int (if 0 ≤ ((s 60 23) - 10) then ((s 60 23) - 10) else 0 - ((s 60 23) - 10))]) (s1 := s) rfl ?_
  exact UP.ret (r := some (.int (if 0 ≤ ((s 60 23) - 10) then ((s 60 23) - 10) else 0 - ((s 60 23) - 10)))) rfl ⟨by rfl, by rfl⟩
def W_farthestStray_b : List (Nat × Nat × Option Nat) := []
def B_farthestStray_b_4 (s : SG) (i1 : Nat) (a1 : Int32) : Int32 := let v2 := (if a1 < (if 0 ≤ ((s 60 i1) - 10) then ((s 60 i1) - 10) else 0 - ((s 60 i1) - 10)) then (if 0 ≤ ((s 60 i1) - 10) then ((s 60 i1) - 10) else 0 - ((s 60 i1) - 10)) else a1); v2
def F_farthestStray_b (s : SG)  : Int32 := let z1 := itr (B_farthestStray_b_4 s) 0 24 (0 : Int32); z1
theorem ux_farthestStray_b (s : SG)   : UP m_X5_farthestStray 0 (m_ent 3 [.ref 58]) [] s (Qi s (F_farthestStray_b s)) := by
  refine UP.stp 4 (i1 := 4) (L1 := [some (.ref 58), some (.int 0), some (.int 0)]) (st1 := []) (s1 := s) rfl ?_
  refine lp (fun (i1 : Nat) (a1 : Int32) => UP m_X5_farthestStray 4 [some (.ref 58), some (.int a1), some (.int (Int32.ofNat i1))] [] s (Qi s (F_farthestStray_b s))) (fun (_ : Nat) (a1 : Int32) => Fr W_farthestStray_b s s) (B_farthestStray_b_4 s) (24) (fun i1 a1 hi1 g1 => g1) (fun i1 a1 hi1 g1 kk => ?_) 24 (0) (0 : Int32) (by omega) (Fr.rf _ _) (fun z1 e1 g1 => ?_)
  · skip
    refine UP.stp 2 (i1 := 6) (L1 := [some (.ref 58), some (.int a1), some (.int (Int32.ofNat i1))]) (st1 := [.int 24, .int (Int32.ofNat i1)]) (s1 := s) rfl ?_
    refine UP.icF rfl (ge_F (show i1 < (24 : Int32).toNatClampNeg from hi1)) ?_
    refine UP.stp 4 (i1 := 11) (L1 := [some (.ref 58), some (.int a1), some (.int (Int32.ofNat i1))]) (st1 := [.int (Int32.ofNat i1), .ref 60, .int a1]) (s1 := s) rfl ?_
    refine UP.ald (e := i1) rfl rfl (by omega) ?_
    show UP m_X5_farthestStray 12 [some (.ref 58), some (.int a1), some (.int (Int32.ofNat i1))] [.int (s 60 i1), .int a1] s (Qi s (F_farthestStray_b s))
    refine UP.stp 4 (i1 := 16) (L1 := [some (.ref 58), some (.int a1), some (.int (Int32.ofNat i1))]) (st1 := [.int (if a1 < (if 0 ≤ ((s 60 i1) - 10) then ((s 60 i1) - 10) else 0 - ((s 60 i1) - 10)) then (if 0 ≤ ((s 60 i1) - 10) then ((s 60 i1) - 10) else 0 - ((s 60 i1) - 10)) else a1)]) (s1 := s) rfl ?_
    refine nm (G := fun v2 => UP m_X5_farthestStray 16 [some (.ref 58), some (.int a1), some (.int (Int32.ofNat i1))] [.int v2] s (Qi s (F_farthestStray_b s))) (if a1 < (if 0 ≤ ((s 60 i1) - 10) then ((s 60 i1) - 10) else 0 - ((s 60 i1) - 10)) then (if 0 ≤ ((s 60 i1) - 10) then ((s 60 i1) - 10) else 0 - ((s 60 i1) - 10)) else a1) (fun v2 e2 => ?_)
    refine UP.stp 3 (i1 := 4) (L1 := [some (.ref 58), some (.int v2), some (.int ((Int32.ofNat i1) + 1))]) (st1 := []) (s1 := s) rfl ?_
    subst e2
    rw [ofn_s]
    exact kk
  refine UP.stp 2 (i1 := 6) (L1 := [some (.ref 58), some (.int z1), some (.int (Int32.ofNat 24))]) (st1 := [.int 24, .int (Int32.ofNat 24)]) (s1 := s) rfl ?_
  refine UP.icT rfl (ge_T (24 : Int32)) ?_
  refine UP.stp 1 (i1 := 20) (L1 := [some (.ref 58), some (.int z1), some (.int (Int32.ofNat 24))]) (st1 := [.int z1]) (s1 := s) rfl ?_
  exact UP.ret (r := some (.int z1)) rfl ⟨by subst e1; rfl, by subst e1; rfl⟩
def W_cat : List (Nat × Nat × Option Nat) := [(16, 20, none), (22, 45, none), (46, 52, none), (15, 15, some 8), (59, 63, none), (65, 88, none), (89, 95, none), (58, 58, some 8), (54, 57, none), (53, 53, none), (96, 108, none), (0, 0, some 12), (0, 0, some 13)]
def F_cat (s : SG) (minute : Int32) (what : Int32) : Int32 × SG := bif m_cmp .ne (F_isBelow s minute 24) 0 then (let z4 := F_toldTrip s ; bif m_cmp .eq what 0 then ((z4 16 minute.toNatClampNeg, z4)) else (bif m_cmp .eq what 1 then ((z4 17 minute.toNatClampNeg, z4)) else (bif m_cmp .eq what 2 then ((z4 18 minute.toNatClampNeg, z4)) else (bif m_cmp .eq what 3 then ((z4 19 minute.toNatClampNeg, z4)) else (bif m_cmp .eq what 4 then ((z4 20 minute.toNatClampNeg, z4)) else (((-2), z4))))))) else (((-2), s))
theorem fr_cat (s : SG) (minute : Int32) (what : Int32)  : Fr W_cat s (F_cat s minute what).2 := by dsimp only [F_cat]; exact (Fr.bifp (b := m_cmp .ne (F_isBelow s minute 24) 0) (x := let z4 := F_toldTrip s ; bif m_cmp .eq what 0 then ((z4 16 minute.toNatClampNeg, z4)) else (bif m_cmp .eq what 1 then ((z4 17 minute.toNatClampNeg, z4)) else (bif m_cmp .eq what 2 then ((z4 18 minute.toNatClampNeg, z4)) else (bif m_cmp .eq what 3 then ((z4 19 minute.toNatClampNeg, z4)) else (bif m_cmp .eq what 4 then ((z4 20 minute.toNatClampNeg, z4)) else (((-2), z4))))))) (y := ((-2), s)) (fun x : Int32 × SG => x.2) (let z4 : SG := F_toldTrip s ; (Fr.bifp (b := m_cmp .eq what 0) (x := (z4 16 minute.toNatClampNeg, z4)) (y := bif m_cmp .eq what 1 then ((z4 17 minute.toNatClampNeg, z4)) else (bif m_cmp .eq what 2 then ((z4 18 minute.toNatClampNeg, z4)) else (bif m_cmp .eq what 3 then ((z4 19 minute.toNatClampNeg, z4)) else (bif m_cmp .eq what 4 then ((z4 20 minute.toNatClampNeg, z4)) else (((-2), z4)))))) (fun x : Int32 × SG => x.2) (Fr.tr (s1 := s) (Fr.rf _ _) (Fr.wk (W2 := W_cat) (fr_toldTrip s ) (by rfl))) (Fr.bifp (b := m_cmp .eq what 1) (x := (z4 17 minute.toNatClampNeg, z4)) (y := bif m_cmp .eq what 2 then ((z4 18 minute.toNatClampNeg, z4)) else (bif m_cmp .eq what 3 then ((z4 19 minute.toNatClampNeg, z4)) else (bif m_cmp .eq what 4 then ((z4 20 minute.toNatClampNeg, z4)) else (((-2), z4))))) (fun x : Int32 × SG => x.2) (Fr.tr (s1 := s) (Fr.rf _ _) (Fr.wk (W2 := W_cat) (fr_toldTrip s ) (by rfl))) (Fr.bifp (b := m_cmp .eq what 2) (x := (z4 18 minute.toNatClampNeg, z4)) (y := bif m_cmp .eq what 3 then ((z4 19 minute.toNatClampNeg, z4)) else (bif m_cmp .eq what 4 then ((z4 20 minute.toNatClampNeg, z4)) else (((-2), z4)))) (fun x : Int32 × SG => x.2) (Fr.tr (s1 := s) (Fr.rf _ _) (Fr.wk (W2 := W_cat) (fr_toldTrip s ) (by rfl))) (Fr.bifp (b := m_cmp .eq what 3) (x := (z4 19 minute.toNatClampNeg, z4)) (y := bif m_cmp .eq what 4 then ((z4 20 minute.toNatClampNeg, z4)) else (((-2), z4))) (fun x : Int32 × SG => x.2) (Fr.tr (s1 := s) (Fr.rf _ _) (Fr.wk (W2 := W_cat) (fr_toldTrip s ) (by rfl))) (Fr.bifp (b := m_cmp .eq what 4) (x := (z4 20 minute.toNatClampNeg, z4)) (y := ((-2), z4)) (fun x : Int32 × SG => x.2) (Fr.tr (s1 := s) (Fr.rf _ _) (Fr.wk (W2 := W_cat) (fr_toldTrip s ) (by rfl))) (Fr.tr (s1 := s) (Fr.rf _ _) (Fr.wk (W2 := W_cat) (fr_toldTrip s ) (by rfl))))))))) (Fr.rf _ _))
theorem ux_cat (s : SG) (minute : Int32) (what : Int32)  : UP m_X6_at 0 (m_ent 4 [.ref 0, .int minute, .int what]) [] s (Qb (F_cat s minute what)) := by
  refine UP.stp 2 (i1 := 2) (L1 := [some (.ref 0), some (.int minute), some (.int what), none]) (st1 := [.int 24, .int minute]) (s1 := s) rfl ?_
  refine UP.cI (M1 := m_X6_isBelow) (as := [.int minute, .int 24]) (rest := []) (T := F_isBelow s minute 24) rfl rfl (ux_isBelow s minute 24) ?_
  refine UP.spl (m_cmp .ne (F_isBelow s minute 24) 0) (let z4 := F_toldTrip s ; bif m_cmp .eq what 0 then ((z4 16 minute.toNatClampNeg, z4)) else (bif m_cmp .eq what 1 then ((z4 17 minute.toNatClampNeg, z4)) else (bif m_cmp .eq what 2 then ((z4 18 minute.toNatClampNeg, z4)) else (bif m_cmp .eq what 3 then ((z4 19 minute.toNatClampNeg, z4)) else (bif m_cmp .eq what 4 then ((z4 20 minute.toNatClampNeg, z4)) else (((-2), z4))))))) (((-2), s)) (by rfl) (fun cc => ?_) (fun cc => ?_)
  · skip
    refine UP.ifT rfl cc ?_
    refine UP.stp 1 (i1 := 7) (L1 := [some (.ref 0), some (.int minute), some (.int what), none]) (st1 := [.ref 0]) (s1 := s) rfl ?_
    refine UP.cR (M1 := m_X6_toldTrip) (as := [.ref 0]) (rest := []) (T := F_toldTrip s ) (a := 15) rfl rfl (ux_toldTrip s ) (fun z4 e4 => ?_)
    refine UP.stp 2 (i1 := 10) (L1 := [some (.ref 0), some (.int minute), some (.int what), some (.ref 15)]) (st1 := [.int what]) (s1 := z4) rfl ?_
    refine UP.spl (m_cmp .eq what 0) ((z4 16 minute.toNatClampNeg, z4)) (bif m_cmp .eq what 1 then ((z4 17 minute.toNatClampNeg, z4)) else (bif m_cmp .eq what 2 then ((z4 18 minute.toNatClampNeg, z4)) else (bif m_cmp .eq what 3 then ((z4 19 minute.toNatClampNeg, z4)) else (bif m_cmp .eq what 4 then ((z4 20 minute.toNatClampNeg, z4)) else (((-2), z4)))))) (by subst e4; rfl) (fun cs0 => ?_) (fun cs0 => ?_)
    · skip
      refine UP.swT 0 rfl cs0 (by decide) (by decide) ?_
      refine UP.stp 4 (i1 := 15) (L1 := [some (.ref 0), some (.int minute), some (.int what), some (.ref 15)]) (st1 := [.int (z4 16 minute.toNatClampNeg)]) (s1 := z4) rfl ?_
      exact UP.ret (r := some (.int (z4 16 minute.toNatClampNeg))) rfl ⟨by subst e4; rfl, by subst e4; rfl⟩
    · skip
      refine UP.spl (m_cmp .eq what 1) ((z4 17 minute.toNatClampNeg, z4)) (bif m_cmp .eq what 2 then ((z4 18 minute.toNatClampNeg, z4)) else (bif m_cmp .eq what 3 then ((z4 19 minute.toNatClampNeg, z4)) else (bif m_cmp .eq what 4 then ((z4 20 minute.toNatClampNeg, z4)) else (((-2), z4))))) (by subst e4; rfl) (fun cs1 => ?_) (fun cs1 => ?_)
      · skip
        refine UP.swT 1 rfl cs1 (by decide) (by decide) ?_
        refine UP.stp 4 (i1 := 20) (L1 := [some (.ref 0), some (.int minute), some (.int what), some (.ref 15)]) (st1 := [.int (z4 17 minute.toNatClampNeg)]) (s1 := z4) rfl ?_
        exact UP.ret (r := some (.int (z4 17 minute.toNatClampNeg))) rfl ⟨by subst e4; rfl, by subst e4; rfl⟩
      · skip
        refine UP.spl (m_cmp .eq what 2) ((z4 18 minute.toNatClampNeg, z4)) (bif m_cmp .eq what 3 then ((z4 19 minute.toNatClampNeg, z4)) else (bif m_cmp .eq what 4 then ((z4 20 minute.toNatClampNeg, z4)) else (((-2), z4)))) (by subst e4; rfl) (fun cs2 => ?_) (fun cs2 => ?_)
        · skip
          refine UP.swT 2 rfl cs2 (by decide) (by decide) ?_
          refine UP.stp 4 (i1 := 25) (L1 := [some (.ref 0), some (.int minute), some (.int what), some (.ref 15)]) (st1 := [.int (z4 18 minute.toNatClampNeg)]) (s1 := z4) rfl ?_
          exact UP.ret (r := some (.int (z4 18 minute.toNatClampNeg))) rfl ⟨by subst e4; rfl, by subst e4; rfl⟩
        · skip
          refine UP.spl (m_cmp .eq what 3) ((z4 19 minute.toNatClampNeg, z4)) (bif m_cmp .eq what 4 then ((z4 20 minute.toNatClampNeg, z4)) else (((-2), z4))) (by subst e4; rfl) (fun cs3 => ?_) (fun cs3 => ?_)
          · skip
            refine UP.swT 3 rfl cs3 (by decide) (by decide) ?_
            refine UP.stp 4 (i1 := 30) (L1 := [some (.ref 0), some (.int minute), some (.int what), some (.ref 15)]) (st1 := [.int (z4 19 minute.toNatClampNeg)]) (s1 := z4) rfl ?_
            exact UP.ret (r := some (.int (z4 19 minute.toNatClampNeg))) rfl ⟨by subst e4; rfl, by subst e4; rfl⟩
          · skip
            refine UP.spl (m_cmp .eq what 4) ((z4 20 minute.toNatClampNeg, z4)) (((-2), z4)) (by subst e4; rfl) (fun cs4 => ?_) (fun cs4 => ?_)
            · skip
              refine UP.swT 4 rfl cs4 (by decide) (by decide) ?_
              refine UP.stp 4 (i1 := 35) (L1 := [some (.ref 0), some (.int minute), some (.int what), some (.ref 15)]) (st1 := [.int (z4 20 minute.toNatClampNeg)]) (s1 := z4) rfl ?_
              exact UP.ret (r := some (.int (z4 20 minute.toNatClampNeg))) rfl ⟨by subst e4; rfl, by subst e4; rfl⟩
            · skip
              refine UP.swD rfl (by have c0_ : what.toInt ≠ 0 := ne_int cs0; have c1_ : what.toInt ≠ 1 := ne_int cs1; have c2_ : what.toInt ≠ 2 := ne_int cs2; have c3_ : what.toInt ≠ 3 := ne_int cs3; have c4_ : what.toInt ≠ 4 := ne_int cs4; omega) ?_
              refine UP.stp 1 (i1 := 37) (L1 := [some (.ref 0), some (.int minute), some (.int what), some (.ref 15)]) (st1 := [.int (-2)]) (s1 := z4) rfl ?_
              exact UP.ret (r := some (.int (-2))) rfl ⟨by subst e4; rfl, by subst e4; rfl⟩
  · skip
    refine UP.ifF rfl cc ?_
    refine UP.stp 1 (i1 := 5) (L1 := [some (.ref 0), some (.int minute), some (.int what), none]) (st1 := [.int (-2)]) (s1 := s) rfl ?_
    exact UP.ret (r := some (.int (-2))) rfl ⟨by rfl, by rfl⟩
def W_cpulls : List (Nat × Nat × Option Nat) := [(16, 20, none), (22, 45, none), (46, 52, none), (15, 15, some 8), (59, 63, none), (65, 88, none), (89, 95, none), (58, 58, some 8), (54, 57, none), (53, 53, none), (96, 108, none), (0, 0, some 12), (0, 0, some 13)]
def F_cpulls (s : SG) (minute : Int32) (seat : Int32) : Int32 × SG := bif m_cmp .eq (F_isBelow s minute 24) 0 then (((-2), s)) else (bif m_cmp .ne (F_cisRower s seat) 0 then (let z7 := F_toldTrip s ; (z7 (22 + minute.toNatClampNeg) seat.toNatClampNeg, z7)) else (((-2), s)))
theorem fr_cpulls (s : SG) (minute : Int32) (seat : Int32)  : Fr W_cpulls s (F_cpulls s minute seat).2 := by dsimp only [F_cpulls]; exact (Fr.bifp (b := m_cmp .eq (F_isBelow s minute 24) 0) (x := ((-2), s)) (y := bif m_cmp .ne (F_cisRower s seat) 0 then (let z7 := F_toldTrip s ; (z7 (22 + minute.toNatClampNeg) seat.toNatClampNeg, z7)) else (((-2), s))) (fun x : Int32 × SG => x.2) (Fr.rf _ _) (Fr.bifp (b := m_cmp .ne (F_cisRower s seat) 0) (x := let z7 := F_toldTrip s ; (z7 (22 + minute.toNatClampNeg) seat.toNatClampNeg, z7)) (y := ((-2), s)) (fun x : Int32 × SG => x.2) (Fr.tr (s1 := s) (Fr.rf _ _) (Fr.wk (W2 := W_cpulls) (fr_toldTrip s ) (by rfl))) (Fr.rf _ _)))
theorem ux_cpulls (s : SG) (minute : Int32) (seat : Int32)  : UP m_X6_pulls 0 (m_ent 3 [.ref 0, .int minute, .int seat]) [] s (Qb (F_cpulls s minute seat)) := by
  refine UP.stp 2 (i1 := 2) (L1 := [some (.ref 0), some (.int minute), some (.int seat)]) (st1 := [.int 24, .int minute]) (s1 := s) rfl ?_
  refine UP.cI (M1 := m_X6_isBelow) (as := [.int minute, .int 24]) (rest := []) (T := F_isBelow s minute 24) rfl rfl (ux_isBelow s minute 24) ?_
  refine UP.spl (m_cmp .eq (F_isBelow s minute 24) 0) (((-2), s)) (bif m_cmp .ne (F_cisRower s seat) 0 then (let z7 := F_toldTrip s ; (z7 (22 + minute.toNatClampNeg) seat.toNatClampNeg, z7)) else (((-2), s))) (by rfl) (fun cc => ?_) (fun cc => ?_)
  · skip
    refine UP.ifT rfl cc ?_
    refine UP.stp 1 (i1 := 9) (L1 := [some (.ref 0), some (.int minute), some (.int seat)]) (st1 := [.int (-2)]) (s1 := s) rfl ?_
    exact UP.ret (r := some (.int (-2))) rfl ⟨by rfl, by rfl⟩
  · skip
    refine UP.ifF rfl cc ?_
    refine UP.stp 2 (i1 := 6) (L1 := [some (.ref 0), some (.int minute), some (.int seat)]) (st1 := [.int seat, .ref 0]) (s1 := s) rfl ?_
    refine UP.cI (M1 := m_X6_isRower) (as := [.ref 0, .int seat]) (rest := []) (T := F_cisRower s seat) rfl rfl (ux_cisRower s seat) ?_
    refine UP.spl (m_cmp .ne (F_cisRower s seat) 0) (let z7 := F_toldTrip s ; (z7 (22 + minute.toNatClampNeg) seat.toNatClampNeg, z7)) (((-2), s)) (by rfl) (fun cc => ?_) (fun cc => ?_)
    · skip
      refine UP.ifT rfl cc ?_
      refine UP.stp 1 (i1 := 11) (L1 := [some (.ref 0), some (.int minute), some (.int seat)]) (st1 := [.ref 0]) (s1 := s) rfl ?_
      refine UP.cR (M1 := m_X6_toldTrip) (as := [.ref 0]) (rest := []) (T := F_toldTrip s ) (a := 15) rfl rfl (ux_toldTrip s ) (fun z7 e7 => ?_)
      refine UP.stp 2 (i1 := 14) (L1 := [some (.ref 0), some (.int minute), some (.int seat)]) (st1 := [.int minute, .ref 21]) (s1 := z7) rfl ?_
      refine UP.stp 3 (i1 := 17) (L1 := [some (.ref 0), some (.int minute), some (.int seat)]) (st1 := [.int (z7 (22 + minute.toNatClampNeg) seat.toNatClampNeg)]) (s1 := z7) rfl ?_
      exact UP.ret (r := some (.int (z7 (22 + minute.toNatClampNeg) seat.toNatClampNeg))) rfl ⟨by subst e7; rfl, by subst e7; rfl⟩
    · skip
      refine UP.ifF rfl cc ?_
      refine UP.stp 1 (i1 := 9) (L1 := [some (.ref 0), some (.int minute), some (.int seat)]) (st1 := [.int (-2)]) (s1 := s) rfl ?_
      exact UP.ret (r := some (.int (-2))) rfl ⟨by rfl, by rfl⟩
