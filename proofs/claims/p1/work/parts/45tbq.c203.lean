def W_signFault_1 : List (Nat × Nat × Option Nat) := []
def B_signFault_1_2 (s : SG) (i1 : Nat) (a1 : Unit) : (Unit) ⊕ (Int32) := let v2 := s 112 i1; let v4 := bif m_cmp .lt v2 48 then (0 : Int32) else (bif m_cmp .gt v2 51 then (0 : Int32) else (1 : Int32)); bif m_cmp .ne v4 0 then (.inl ()) else (.inr (Int32.ofNat i1))
def F_signFault_1 (s : SG)  : Int32 := Sum.elim (fun z1 : Unit => (-1)) (fun x : Nat × (Int32) => x.2) (itx (B_signFault_1_2 s) 0 ((s 111 1).toNatClampNeg) ())
set_option maxRecDepth 20000 in
set_option maxHeartbeats 200000 in
theorem ux_signFault_1 (s : SG)   : UP m_X4_signFault 0 (m_ent 5 [.ref 111, .int 1]) [] s (Qi s (F_signFault_1 s)) := by
  refine UP.stp 2 (i1 := 2) (L1 := [some (.ref 111), some (.int 1), some (.int 0), none, none]) (st1 := []) (s1 := s) rfl ?_
  refine lpx (fun (i1 : Nat) (a1 : Unit) => ∀ (u1_3 : Option Value) (u1_4 : Option Value), UP m_X4_signFault 2 [some (.ref 111), some (.int 1), some (.int (Int32.ofNat i1)), u1_3, u1_4] [] s (Qi s (F_signFault_1 s))) (fun (_ : Nat) (b1 : Int32) => (F_signFault_1 s) = b1) (fun (_ : Nat) (a1 : Unit) => Fr W_signFault_1 s s) (B_signFault_1_2 s) ((s 111 1).toNatClampNeg) (fun i1 a1 x1 hi1 g1 e => g1) (fun i1 a1 hi1 g1 kk => ?_) ((s 111 1).toNatClampNeg) (0) () (by omega) (Fr.rf _ _) (fun z1 e1 g1 => ?_) (fun i1 a1 b1 e1 hi1 g1 f1 => by have q : (F_signFault_1 s) = Sum.elim (fun z1 : Unit => (-1)) (fun x : Nat × (Int32) => x.2) (itx (B_signFault_1_2 s) 0 ((s 111 1).toNatClampNeg) ()) := (by first | (dsimp only [F_signFault_1]; done) | (dsimp only; done) | rfl); rw [q, e1]; first | (dsimp only [Sum.elim_inr]; done) | rfl) none none
  · skip
    intro u1_3 u1_4
    have hbi1 := cl_lt (s 111 1)
    refine UP.stp 3 (i1 := 5) (L1 := [some (.ref 111), some (.int 1), some (.int (Int32.ofNat i1)), u1_3, u1_4]) (st1 := [.int (s 111 1), .int (Int32.ofNat i1)]) (s1 := s) rfl ?_
    refine UP.icF rfl (ge_F hi1) ?_
    refine UP.stp 3 (i1 := 9) (L1 := [some (.ref 111), some (.int 1), some (.int (Int32.ofNat i1)), u1_3, u1_4]) (st1 := [.int (Int32.ofNat i1), .ref 112]) (s1 := s) rfl ?_
    refine UP.ald (e := i1) rfl rfl (by omega) ?_
    show UP m_X4_signFault 10 [some (.ref 111), some (.int 1), some (.int (Int32.ofNat i1)), u1_3, u1_4] [.int (s 112 i1)] s (Qi s (F_signFault_1 s))
    refine nm (G := fun v2 => UP m_X4_signFault 10 [some (.ref 111), some (.int 1), some (.int (Int32.ofNat i1)), u1_3, u1_4] [.int v2] s (Qi s (F_signFault_1 s))) (s 112 i1) (fun v2 e2 => ?_)
    refine UP.stp 5 (i1 := 15) (L1 := [some (.ref 111), some (.int 1), some (.int (Int32.ofNat i1)), some (.int v2), u1_4]) (st1 := [.int 48, .int v2]) (s1 := s) rfl ?_
    refine mrg (m_cmp .lt v2 48) (0 : Int32) (bif m_cmp .gt v2 51 then (0 : Int32) else (1 : Int32)) (fun v4 : Int32 => UP m_X4_signFault 35 [some (.ref 111), some (.int 1), some (.int (Int32.ofNat i1)), some (.int v2), u1_4] [.int v4] s (Qi s (F_signFault_1 s))) (fun cc kk => ?_) (fun cc kk => ?_) (fun v4 e4 => ?_)
    · skip
      refine UP.icT rfl cc ?_
      refine UP.stp 2 (i1 := 35) (L1 := [some (.ref 111), some (.int 1), some (.int (Int32.ofNat i1)), some (.int v2), u1_4]) (st1 := [.int 0]) (s1 := s) rfl ?_
      exact kk
    · skip
      refine UP.icF rfl cc ?_
      refine UP.stp 2 (i1 := 18) (L1 := [some (.ref 111), some (.int 1), some (.int (Int32.ofNat i1)), some (.int v2), u1_4]) (st1 := [.int 51, .int v2]) (s1 := s) rfl ?_
      refine mrg (m_cmp .gt v2 51) (0 : Int32) (1 : Int32) (fun v3 : Int32 => UP m_X4_signFault 35 [some (.ref 111), some (.int 1), some (.int (Int32.ofNat i1)), some (.int v2), u1_4] [.int v3] s (Qi s (F_signFault_1 s))) (fun cc kk => ?_) (fun cc kk => ?_) (fun v3 e3 => ?_)
      · skip
        refine UP.icT rfl cc ?_
        refine UP.stp 2 (i1 := 35) (L1 := [some (.ref 111), some (.int 1), some (.int (Int32.ofNat i1)), some (.int v2), u1_4]) (st1 := [.int 0]) (s1 := s) rfl ?_
        exact kk
      · skip
        refine UP.icF rfl cc ?_
        refine UP.stp 2 (i1 := 35) (L1 := [some (.ref 111), some (.int 1), some (.int (Int32.ofNat i1)), some (.int v2), u1_4]) (st1 := [.int 1]) (s1 := s) rfl ?_
        exact kk
      subst e3
      exact kk
    refine UP.stp 2 (i1 := 37) (L1 := [some (.ref 111), some (.int 1), some (.int (Int32.ofNat i1)), some (.int v2), some (.int v4)]) (st1 := [.int v4]) (s1 := s) rfl ?_
    refine brk (K := (Kx (fun (i1 : Nat) (a1 : Unit) => ∀ (u1_3 : Option Value) (u1_4 : Option Value), UP m_X4_signFault 2 [some (.ref 111), some (.int 1), some (.int (Int32.ofNat i1)), u1_3, u1_4] [] s (Qi s (F_signFault_1 s))) (fun (_ : Nat) (b1 : Int32) => (F_signFault_1 s) = b1) i1)) (m_cmp .ne v4 0) (.inl ()) (.inr (Int32.ofNat i1)) (by subst e4 e2; (try dsimp only [B_signFault_1_2] at kk ⊢); exact kk) (fun cc kk => ?_) (fun cc kk => ?_)
    · skip
      refine UP.ifT rfl cc ?_
      refine UP.stp 2 (i1 := 2) (L1 := [some (.ref 111), some (.int 1), some (.int ((Int32.ofNat i1) + 1)), some (.int v2), some (.int v4)]) (st1 := []) (s1 := s) rfl ?_
      subst e4 e2
      rw [ofn_s]
      exact kk _ _
    · skip
      refine UP.ifF rfl cc ?_
      refine UP.stp 1 (i1 := 39) (L1 := [some (.ref 111), some (.int 1), some (.int (Int32.ofNat i1)), some (.int v2), some (.int v4)]) (st1 := [.int (Int32.ofNat i1)]) (s1 := s) rfl ?_
      have kk : (F_signFault_1 s) = Int32.ofNat i1 := by subst e4 e2; exact kk
      exact UP.ret (r := some (.int (Int32.ofNat i1))) rfl ⟨by rw [kk], rfl⟩
  · skip
    intro u1_3 u1_4
    refine UP.eqT ((-1)) (by have q : (F_signFault_1 s) = Sum.elim (fun z1 : Unit => (-1)) (fun x : Nat × (Int32) => x.2) (itx (B_signFault_1_2 s) 0 ((s 111 1).toNatClampNeg) ()) := (by first | (dsimp only [F_signFault_1]; done) | (dsimp only; done) | rfl); rw [q, e1]; first | (dsimp only [Sum.elim_inl]; done) | rfl) ?_
    refine UP.stp 3 (i1 := 5) (L1 := [some (.ref 111), some (.int 1), some (.int (Int32.ofNat ((s 111 1).toNatClampNeg))), u1_3, u1_4]) (st1 := [.int (s 111 1), .int (Int32.ofNat ((s 111 1).toNatClampNeg))]) (s1 := s) rfl ?_
    refine UP.icT rfl (ge_T _) ?_
    refine UP.stp 1 (i1 := 43) (L1 := [some (.ref 111), some (.int 1), some (.int (Int32.ofNat ((s 111 1).toNatClampNeg))), u1_3, u1_4]) (st1 := [.int (-1)]) (s1 := s) rfl ?_
    exact UP.ret (r := some (.int (-1))) rfl ⟨by first | (dsimp only [F_signFault_1]; done) | (dsimp only; done) | rfl, by first | (dsimp only [F_signFault_1]; done) | (dsimp only; done) | rfl⟩
