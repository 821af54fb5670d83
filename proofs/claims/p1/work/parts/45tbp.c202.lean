def W_crewFault : List (Nat × Nat × Option Nat) := []
def B_crewFault_2 (s : SG) (i1 : Nat) (a1 : Unit) : (Unit) ⊕ (Int32) := bif m_cmp .ne (F_fitsCrew s ((Int32.ofNat i1) - (Int32.ofNat i1) / 3 * 3) (s 110 i1)) 0 then (.inl ()) else (.inr (Int32.ofNat i1))
def F_crewFault (s : SG)  : Int32 := Sum.elim (fun z1 : Unit => let v5 := bif m_cmp .eq (s 109 1) 0 then (-1 : Int32) else (bif m_cmp .ne ((s 109 1) - (s 109 1) / 3 * 3) 2 then s 109 1 else (-1 : Int32)); v5) (fun x : Nat × (Int32) => x.2) (itx (B_crewFault_2 s) 0 ((s 109 1).toNatClampNeg) ())
set_option maxRecDepth 20000 in
set_option maxHeartbeats 200000 in
theorem ux_crewFault (s : SG)   : UP m_X4_crewFault 0 (m_ent 2 [.ref 109]) [] s (Qi s (F_crewFault s)) := by
  refine UP.stp 2 (i1 := 2) (L1 := [some (.ref 109), some (.int 0)]) (st1 := []) (s1 := s) rfl ?_
  refine lpx (fun (i1 : Nat) (a1 : Unit) => UP m_X4_crewFault 2 [some (.ref 109), some (.int (Int32.ofNat i1))] [] s (Qi s (F_crewFault s))) (fun (_ : Nat) (b1 : Int32) => (F_crewFault s) = b1) (fun (_ : Nat) (a1 : Unit) => Fr W_crewFault s s) (B_crewFault_2 s) ((s 109 1).toNatClampNeg) (fun i1 a1 x1 hi1 g1 e => g1) (fun i1 a1 hi1 g1 kk => ?_) ((s 109 1).toNatClampNeg) (0) () (by omega) (Fr.rf _ _) (fun z1 e1 g1 => ?_) (fun i1 a1 b1 e1 hi1 g1 f1 => by have q : (F_crewFault s) = Sum.elim (fun z1 : Unit => let v5 := bif m_cmp .eq (s 109 1) 0 then (-1 : Int32) else (bif m_cmp .ne ((s 109 1) - (s 109 1) / 3 * 3) 2 then s 109 1 else (-1 : Int32)); v5) (fun x : Nat × (Int32) => x.2) (itx (B_crewFault_2 s) 0 ((s 109 1).toNatClampNeg) ()) := (by first | (dsimp only [F_crewFault]; done) | (dsimp only; done) | rfl); rw [q, e1]; first | (dsimp only [Sum.elim_inr]; done) | rfl)
  · skip
    have hbi1 := cl_lt (s 109 1)
    refine UP.stp 3 (i1 := 5) (L1 := [some (.ref 109), some (.int (Int32.ofNat i1))]) (st1 := [.int (s 109 1), .int (Int32.ofNat i1)]) (s1 := s) rfl ?_
    refine UP.icF rfl (ge_F hi1) ?_
    refine UP.stp 6 (i1 := 12) (L1 := [some (.ref 109), some (.int (Int32.ofNat i1))]) (st1 := [.int (Int32.ofNat i1), .ref 110, .int ((Int32.ofNat i1) - (Int32.ofNat i1) / 3 * 3)]) (s1 := s) rfl ?_
    refine UP.ald (e := i1) rfl rfl (by omega) ?_
    show UP m_X4_crewFault 13 [some (.ref 109), some (.int (Int32.ofNat i1))] [.int (s 110 i1), .int ((Int32.ofNat i1) - (Int32.ofNat i1) / 3 * 3)] s (Qi s (F_crewFault s))
    refine UP.cI (M1 := m_X4_fitsCrew) (as := [.int ((Int32.ofNat i1) - (Int32.ofNat i1) / 3 * 3), .int (s 110 i1)]) (rest := []) (T := F_fitsCrew s ((Int32.ofNat i1) - (Int32.ofNat i1) / 3 * 3) (s 110 i1)) rfl rfl (ux_fitsCrew s ((Int32.ofNat i1) - (Int32.ofNat i1) / 3 * 3) (s 110 i1)) ?_
    refine brk (K := (Kx (fun (i1 : Nat) (a1 : Unit) => UP m_X4_crewFault 2 [some (.ref 109), some (.int (Int32.ofNat i1))] [] s (Qi s (F_crewFault s))) (fun (_ : Nat) (b1 : Int32) => (F_crewFault s) = b1) i1)) (m_cmp .ne (F_fitsCrew s ((Int32.ofNat i1) - (Int32.ofNat i1) / 3 * 3) (s 110 i1)) 0) (.inl ()) (.inr (Int32.ofNat i1)) (by (try dsimp only [B_crewFault_2] at kk ⊢); exact kk) (fun cc kk => ?_) (fun cc kk => ?_)
    · skip
      refine UP.ifT rfl cc ?_
      refine UP.stp 2 (i1 := 2) (L1 := [some (.ref 109), some (.int ((Int32.ofNat i1) + 1))]) (st1 := []) (s1 := s) rfl ?_
      rw [ofn_s]
      exact kk
    · skip
      refine UP.ifF rfl cc ?_
      refine UP.stp 1 (i1 := 16) (L1 := [some (.ref 109), some (.int (Int32.ofNat i1))]) (st1 := [.int (Int32.ofNat i1)]) (s1 := s) rfl ?_
      have kk : (F_crewFault s) = Int32.ofNat i1 := by exact kk
      exact UP.ret (r := some (.int (Int32.ofNat i1))) rfl ⟨by rw [kk], rfl⟩
  · skip
    refine UP.eqT (let v5 := bif m_cmp .eq (s 109 1) 0 then (-1 : Int32) else (bif m_cmp .ne ((s 109 1) - (s 109 1) / 3 * 3) 2 then s 109 1 else (-1 : Int32)); v5) (by have q : (F_crewFault s) = Sum.elim (fun z1 : Unit => let v5 := bif m_cmp .eq (s 109 1) 0 then (-1 : Int32) else (bif m_cmp .ne ((s 109 1) - (s 109 1) / 3 * 3) 2 then s 109 1 else (-1 : Int32)); v5) (fun x : Nat × (Int32) => x.2) (itx (B_crewFault_2 s) 0 ((s 109 1).toNatClampNeg) ()) := (by first | (dsimp only [F_crewFault]; done) | (dsimp only; done) | rfl); rw [q, e1]; first | (dsimp only [Sum.elim_inl]; done) | rfl) ?_
    refine UP.stp 3 (i1 := 5) (L1 := [some (.ref 109), some (.int (Int32.ofNat ((s 109 1).toNatClampNeg)))]) (st1 := [.int (s 109 1), .int (Int32.ofNat ((s 109 1).toNatClampNeg))]) (s1 := s) rfl ?_
    refine UP.icT rfl (ge_T _) ?_
    refine UP.stp 2 (i1 := 21) (L1 := [some (.ref 109), some (.int (Int32.ofNat ((s 109 1).toNatClampNeg)))]) (st1 := [.int (s 109 1)]) (s1 := s) rfl ?_
    refine mrg (m_cmp .eq (s 109 1) 0) (-1 : Int32) (bif m_cmp .ne ((s 109 1) - (s 109 1) / 3 * 3) 2 then s 109 1 else (-1 : Int32)) (fun v5 : Int32 => UP m_X4_crewFault 32 [some (.ref 109), some (.int (Int32.ofNat ((s 109 1).toNatClampNeg)))] [.int v5] s (Qi s (let v5 := bif m_cmp .eq (s 109 1) 0 then (-1 : Int32) else (bif m_cmp .ne ((s 109 1) - (s 109 1) / 3 * 3) 2 then s 109 1 else (-1 : Int32)); v5))) (fun cc kk => ?_) (fun cc kk => ?_) (fun v5 e5 => ?_)
    · skip
      refine UP.ifT rfl cc ?_
      refine UP.stp 2 (i1 := 32) (L1 := [some (.ref 109), some (.int (Int32.ofNat ((s 109 1).toNatClampNeg)))]) (st1 := [.int (-1)]) (s1 := s) rfl ?_
      exact kk
    · skip
      refine UP.ifF rfl cc ?_
      refine UP.stp 5 (i1 := 27) (L1 := [some (.ref 109), some (.int (Int32.ofNat ((s 109 1).toNatClampNeg)))]) (st1 := [.int 2, .int ((s 109 1) - (s 109 1) / 3 * 3)]) (s1 := s) rfl ?_
      refine mrg (m_cmp .ne ((s 109 1) - (s 109 1) / 3 * 3) 2) (s 109 1) (-1 : Int32) (fun v4 : Int32 => UP m_X4_crewFault 32 [some (.ref 109), some (.int (Int32.ofNat ((s 109 1).toNatClampNeg)))] [.int v4] s (Qi s (let v5 := bif m_cmp .eq (s 109 1) 0 then (-1 : Int32) else (bif m_cmp .ne ((s 109 1) - (s 109 1) / 3 * 3) 2 then s 109 1 else (-1 : Int32)); v5))) (fun cc kk => ?_) (fun cc kk => ?_) (fun v4 e4 => ?_)
      · skip
        refine UP.icT rfl cc ?_
        refine UP.stp 2 (i1 := 32) (L1 := [some (.ref 109), some (.int (Int32.ofNat ((s 109 1).toNatClampNeg)))]) (st1 := [.int (s 109 1)]) (s1 := s) rfl ?_
        exact kk
      · skip
        refine UP.icF rfl cc ?_
        refine UP.stp 2 (i1 := 32) (L1 := [some (.ref 109), some (.int (Int32.ofNat ((s 109 1).toNatClampNeg)))]) (st1 := [.int (-1)]) (s1 := s) rfl ?_
        exact kk
      subst e4
      exact kk
    exact UP.ret (r := some (.int v5)) rfl ⟨by subst e5; first | (dsimp only [F_crewFault]; done) | (dsimp only; done) | rfl, by subst e5; first | (dsimp only [F_crewFault]; done) | (dsimp only; done) | rfl⟩
