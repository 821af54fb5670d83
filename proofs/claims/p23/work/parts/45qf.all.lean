section
def W_signFault_1 : List (Nat × Nat × Option Nat) := []
def B_signFault_1_2 (s : SG) (i1 : Nat) (a1 : Unit) : (Unit) ⊕ (Int32) := let v2 := s 112 i1; let v4 := bif m_cmp .lt v2 48 then (0 : Int32) else (bif m_cmp .gt v2 51 then (0 : Int32) else (1 : Int32)); bif m_cmp .ne v4 0 then (.inl ()) else (.inr (Int32.ofNat i1))
def F_signFault_1 (s : SG)  : Int32 := Sum.elim (fun z1 : Unit => (-1)) (fun x : Nat × (Int32) => x.2) (itx (B_signFault_1_2 s) 0 ((s 111 1).toNatClampNeg) ())
set_option maxRecDepth 20000 in
set_option maxHeartbeats 200000 in
theorem ux_signFault_1 (s : SG)   : UP m_X4_signFault 0 (m_ent 5 [.ref 111, .int 1]) [] s (Qi s (F_signFault_1 s)) := by
  refine UP.stp 2 (i1 := 2) (L1 := [some (.ref 111), some (.int 1), some (.int 0), none, none]) (st1 := []) (s1 := s) rfl ?_
  refine lpx (fun (i1 : Nat) (a1 : Unit) => ∀ (u1_3 : Option Value) (u1_4 : Option Value), UP m_X4_signFault 2 [some (.ref 111), some (.int 1), some (.int (Int32.ofNat i1)), u1_3, u1_4] [] s (Qi s (F_signFault_1 s))) (fun (_ : Nat) (b1 : Int32) => (F_signFault_1 s) = b1) (fun (_ : Nat) (a1 : Unit) => Fr W_signFault_1 s s) (B_signFault_1_2 s) ((s 111 1).toNatClampNeg) (fun i1 a1 x1 hi1 g1 e => g1) (fun i1 a1 hi1 g1 kk => ?_) ((s 111 1).toNatClampNeg) (0) () (by omega) (Fr.rf _ _) (fun z1 e1 g1 => ?_) (fun i1 a1 b1 e1 hi1 g1 f1 => by have q : (F_signFault_1 s) = Sum.elim (fun z1 : Unit => (-1)) (fun x : Nat × (Int32) => x.2) (itx (B_signFault_1_2 s) 0 ((s 111 1).toNatClampNeg) ()) := (by first | (dsimp only [F_signFault_1]; done) | (dsimp only; done) | rfl); rw [q, e1]; first | (dsimp only [Sum.elim_inr]; done) | rfl) none none
  · skip
    intro u1_3 u1_4
    have hbi1 := cl_lt (s 111 1)
    refine UP.stp 3 (i1 := 5) (L1 := [some (.ref 111), some (.int 1), some (.int (Int32.ofNat i1)), u1_3, u1_4]) (st1 := [.int (s 111 1), .int (Int32.ofNat i1)]) (s1 := s) rfl ?_
    refine UP.icF rfl (ge_F hi1) ?_
    refine UP.stp 3 (i1 := 9) (L1 := [some (.ref 111), some (.int 1), some (.int (Int32.ofNat i1)), u1_3, u1_4]) (st1 := [.int (Int32.ofNat i1), .ref 112]) (s1 := s) rfl ?_
    refine UP.ald (e := i1) rfl rfl (by omega) ?_
    show UP m_X4_signFault 10 [some (.ref 111), some (.int 1), some (.int (Int32.ofNat i1)), u1_3, u1_4] [.int (s 112 i1)] s (Qi s (F_signFault_1 s))
    refine nm (G := fun v2 => UP m_X4_signFault 10 [some (.ref 111), some (.int 1), some (.int (Int32.ofNat i1)), u1_3, u1_4] [.int v2] s (Qi s (F_signFault_1 s))) (s 112 i1) (fun v2 e2 => ?_)
    refine UP.stp 5 (i1 := 15) (L1 := [some (.ref 111), some (.int 1), some (.int (Int32.ofNat i1)), some (.int v2), u1_4]) (st1 := [.int 48, .int v2]) (s1 := s) rfl ?_
    refine mrg (m_cmp .lt v2 48) (0 : Int32) (bif m_cmp .gt v2 51 then (0 : Int32) else (1 : Int32)) (fun v4 : Int32 => UP m_X4_signFault 35 [some (.ref 111), some (.int 1), some (.int (Int32.ofNat i1)), some (.int v2), u1_4] [.int v4] s (Qi s (F_signFault_1 s))) (fun cc kk => ?_) (fun cc kk => ?_) (fun v4 e4 => ?_)
    · skip
      refine UP.icT rfl cc ?_
      refine UP.stp 2 (i1 := 35) (L1 := [some (.ref 111), some (.int 1), some (.int (Int32.ofNat i1)), some (.int v2), u1_4]) (st1 := [.int 0]) (s1 := s) rfl ?_
      exact kk
    · skip
      refine UP.icF rfl cc ?_
      refine UP.stp 2 (i1 := 18) (L1 := [some (.ref 111), some (.int 1), some (.int (Int32.ofNat i1)), some (.int v2), u1_4]) (st1 := [.int 51, .int v2]) (s1 := s) rfl ?_
      refine mrg (m_cmp .gt v2 51) (0 : Int32) (1 : Int32) (fun v3 : Int32 => UP m_X4_signFault 35 [some (.ref 111), some (.int 1), some (.int (Int32.ofNat i1)), some (.int v2), u1_4] [.int v3] s (Qi s (F_signFault_1 s))) (fun cc kk => ?_) (fun cc kk => ?_) (fun v3 e3 => ?_)
      · skip
        refine UP.icT rfl cc ?_
        refine UP.stp 2 (i1 := 35) (L1 := [some (.ref 111), some (.int 1), some (.int (Int32.ofNat i1)), some (.int v2), u1_4]) (st1 := [.int 0]) (s1 := s) rfl ?_
        exact kk
      · skip
        refine UP.icF rfl cc ?_
        refine UP.stp 2 (i1 := 35) (L1 := [some (.ref 111), some (.int 1), some (.int (Int32.ofNat i1)), some (.int v2), u1_4]) (st1 := [.int 1]) (s1 := s) rfl ?_
        exact kk
      subst e3
      exact kk
    refine UP.stp 2 (i1 := 37) (L1 := [some (.ref 111), some (.int 1), some (.int (Int32.ofNat i1)), some (.int v2), some (.int v4)]) (st1 := [.int v4]) (s1 := s) rfl ?_
    refine brk (K := (Kx (fun (i1 : Nat) (a1 : Unit) => ∀ (u1_3 : Option Value) (u1_4 : Option Value), UP m_X4_signFault 2 [some (.ref 111), some (.int 1), some (.int (Int32.ofNat i1)), u1_3, u1_4] [] s (Qi s (F_signFault_1 s))) (fun (_ : Nat) (b1 : Int32) => (F_signFault_1 s) = b1) i1)) (m_cmp .ne v4 0) (.inl ()) (.inr (Int32.ofNat i1)) (by subst e4 e2; (try dsimp only [B_signFault_1_2] at kk ⊢); exact kk) (fun cc kk => ?_) (fun cc kk => ?_)
    · skip
      refine UP.ifT rfl cc ?_
      refine UP.stp 2 (i1 := 2) (L1 := [some (.ref 111), some (.int 1), some (.int ((Int32.ofNat i1) + 1)), some (.int v2), some (.int v4)]) (st1 := []) (s1 := s) rfl ?_
      subst e4 e2
      rw [ofn_s]
      exact kk _ _
    · skip
      refine UP.ifF rfl cc ?_
      refine UP.stp 1 (i1 := 39) (L1 := [some (.ref 111), some (.int 1), some (.int (Int32.ofNat i1)), some (.int v2), some (.int v4)]) (st1 := [.int (Int32.ofNat i1)]) (s1 := s) rfl ?_
      have kk : (F_signFault_1 s) = Int32.ofNat i1 := by subst e4 e2; exact kk
      exact UP.ret (r := some (.int (Int32.ofNat i1))) rfl ⟨by rw [kk], rfl⟩
  · skip
    intro u1_3 u1_4
    refine UP.eqT ((-1)) (by have q : (F_signFault_1 s) = Sum.elim (fun z1 : Unit => (-1)) (fun x : Nat × (Int32) => x.2) (itx (B_signFault_1_2 s) 0 ((s 111 1).toNatClampNeg) ()) := (by first | (dsimp only [F_signFault_1]; done) | (dsimp only; done) | rfl); rw [q, e1]; first | (dsimp only [Sum.elim_inl]; done) | rfl) ?_
    refine UP.stp 3 (i1 := 5) (L1 := [some (.ref 111), some (.int 1), some (.int (Int32.ofNat ((s 111 1).toNatClampNeg))), u1_3, u1_4]) (st1 := [.int (s 111 1), .int (Int32.ofNat ((s 111 1).toNatClampNeg))]) (s1 := s) rfl ?_
    refine UP.icT rfl (ge_T _) ?_
    refine UP.stp 1 (i1 := 43) (L1 := [some (.ref 111), some (.int 1), some (.int (Int32.ofNat ((s 111 1).toNatClampNeg))), u1_3, u1_4]) (st1 := [.int (-1)]) (s1 := s) rfl ?_
    exact UP.ret (r := some (.int (-1))) rfl ⟨by first | (dsimp only [F_signFault_1]; done) | (dsimp only; done) | rfl, by first | (dsimp only [F_signFault_1]; done) | (dsimp only; done) | rfl⟩
end
section
def W_signFault_2 : List (Nat × Nat × Option Nat) := []
def B_signFault_2_2 (s : SG) (i1 : Nat) (a1 : Unit) : (Unit) ⊕ (Int32) := let v2 := s 114 i1; let v5 := bif m_cmp .eq v2 108 then (1 : Int32) else (bif m_cmp .eq v2 114 then (1 : Int32) else (bif m_cmp .ne v2 45 then (0 : Int32) else (1 : Int32))); bif m_cmp .ne v5 0 then (.inl ()) else (.inr (Int32.ofNat i1))
def F_signFault_2 (s : SG)  : Int32 := Sum.elim (fun z1 : Unit => (-1)) (fun x : Nat × (Int32) => x.2) (itx (B_signFault_2_2 s) 0 ((s 113 1).toNatClampNeg) ())
set_option maxRecDepth 20000 in
set_option maxHeartbeats 200000 in
theorem ux_signFault_2 (s : SG)   : UP m_X4_signFault 0 (m_ent 5 [.ref 113, .int 0]) [] s (Qi s (F_signFault_2 s)) := by
  refine UP.stp 2 (i1 := 2) (L1 := [some (.ref 113), some (.int 0), some (.int 0), none, none]) (st1 := []) (s1 := s) rfl ?_
  refine lpx (fun (i1 : Nat) (a1 : Unit) => ∀ (u1_3 : Option Value) (u1_4 : Option Value), UP m_X4_signFault 2 [some (.ref 113), some (.int 0), some (.int (Int32.ofNat i1)), u1_3, u1_4] [] s (Qi s (F_signFault_2 s))) (fun (_ : Nat) (b1 : Int32) => (F_signFault_2 s) = b1) (fun (_ : Nat) (a1 : Unit) => Fr W_signFault_2 s s) (B_signFault_2_2 s) ((s 113 1).toNatClampNeg) (fun i1 a1 x1 hi1 g1 e => g1) (fun i1 a1 hi1 g1 kk => ?_) ((s 113 1).toNatClampNeg) (0) () (by omega) (Fr.rf _ _) (fun z1 e1 g1 => ?_) (fun i1 a1 b1 e1 hi1 g1 f1 => by have q : (F_signFault_2 s) = Sum.elim (fun z1 : Unit => (-1)) (fun x : Nat × (Int32) => x.2) (itx (B_signFault_2_2 s) 0 ((s 113 1).toNatClampNeg) ()) := (by first | (dsimp only [F_signFault_2]; done) | (dsimp only; done) | rfl); rw [q, e1]; first | (dsimp only [Sum.elim_inr]; done) | rfl) none none
  · skip
    intro u1_3 u1_4
    have hbi1 := cl_lt (s 113 1)
    refine UP.stp 3 (i1 := 5) (L1 := [some (.ref 113), some (.int 0), some (.int (Int32.ofNat i1)), u1_3, u1_4]) (st1 := [.int (s 113 1), .int (Int32.ofNat i1)]) (s1 := s) rfl ?_
    refine UP.icF rfl (ge_F hi1) ?_
    refine UP.stp 3 (i1 := 9) (L1 := [some (.ref 113), some (.int 0), some (.int (Int32.ofNat i1)), u1_3, u1_4]) (st1 := [.int (Int32.ofNat i1), .ref 114]) (s1 := s) rfl ?_
    refine UP.ald (e := i1) rfl rfl (by omega) ?_
    show UP m_X4_signFault 10 [some (.ref 113), some (.int 0), some (.int (Int32.ofNat i1)), u1_3, u1_4] [.int (s 114 i1)] s (Qi s (F_signFault_2 s))
    refine nm (G := fun v2 => UP m_X4_signFault 10 [some (.ref 113), some (.int 0), some (.int (Int32.ofNat i1)), u1_3, u1_4] [.int v2] s (Qi s (F_signFault_2 s))) (s 114 i1) (fun v2 e2 => ?_)
    refine UP.stp 5 (i1 := 25) (L1 := [some (.ref 113), some (.int 0), some (.int (Int32.ofNat i1)), some (.int v2), u1_4]) (st1 := [.int 108, .int v2]) (s1 := s) rfl ?_
    refine mrg (m_cmp .eq v2 108) (1 : Int32) (bif m_cmp .eq v2 114 then (1 : Int32) else (bif m_cmp .ne v2 45 then (0 : Int32) else (1 : Int32))) (fun v5 : Int32 => UP m_X4_signFault 35 [some (.ref 113), some (.int 0), some (.int (Int32.ofNat i1)), some (.int v2), u1_4] [.int v5] s (Qi s (F_signFault_2 s))) (fun cc kk => ?_) (fun cc kk => ?_) (fun v5 e5 => ?_)
    · skip
      refine UP.icT rfl cc ?_
      refine UP.stp 2 (i1 := 35) (L1 := [some (.ref 113), some (.int 0), some (.int (Int32.ofNat i1)), some (.int v2), u1_4]) (st1 := [.int 1]) (s1 := s) rfl ?_
      exact kk
    · skip
      refine UP.icF rfl cc ?_
      refine UP.stp 2 (i1 := 28) (L1 := [some (.ref 113), some (.int 0), some (.int (Int32.ofNat i1)), some (.int v2), u1_4]) (st1 := [.int 114, .int v2]) (s1 := s) rfl ?_
      refine mrg (m_cmp .eq v2 114) (1 : Int32) (bif m_cmp .ne v2 45 then (0 : Int32) else (1 : Int32)) (fun v4 : Int32 => UP m_X4_signFault 35 [some (.ref 113), some (.int 0), some (.int (Int32.ofNat i1)), some (.int v2), u1_4] [.int v4] s (Qi s (F_signFault_2 s))) (fun cc kk => ?_) (fun cc kk => ?_) (fun v4 e4 => ?_)
      · skip
        refine UP.icT rfl cc ?_
        refine UP.stp 2 (i1 := 35) (L1 := [some (.ref 113), some (.int 0), some (.int (Int32.ofNat i1)), some (.int v2), u1_4]) (st1 := [.int 1]) (s1 := s) rfl ?_
        exact kk
      · skip
        refine UP.icF rfl cc ?_
        refine UP.stp 2 (i1 := 31) (L1 := [some (.ref 113), some (.int 0), some (.int (Int32.ofNat i1)), some (.int v2), u1_4]) (st1 := [.int 45, .int v2]) (s1 := s) rfl ?_
        refine mrg (m_cmp .ne v2 45) (0 : Int32) (1 : Int32) (fun v3 : Int32 => UP m_X4_signFault 35 [some (.ref 113), some (.int 0), some (.int (Int32.ofNat i1)), some (.int v2), u1_4] [.int v3] s (Qi s (F_signFault_2 s))) (fun cc kk => ?_) (fun cc kk => ?_) (fun v3 e3 => ?_)
        · skip
          refine UP.icT rfl cc ?_
          refine UP.stp 1 (i1 := 35) (L1 := [some (.ref 113), some (.int 0), some (.int (Int32.ofNat i1)), some (.int v2), u1_4]) (st1 := [.int 0]) (s1 := s) rfl ?_
          exact kk
        · skip
          refine UP.icF rfl cc ?_
          refine UP.stp 2 (i1 := 35) (L1 := [some (.ref 113), some (.int 0), some (.int (Int32.ofNat i1)), some (.int v2), u1_4]) (st1 := [.int 1]) (s1 := s) rfl ?_
          exact kk
        subst e3
        exact kk
      subst e4
      exact kk
    refine UP.stp 2 (i1 := 37) (L1 := [some (.ref 113), some (.int 0), some (.int (Int32.ofNat i1)), some (.int v2), some (.int v5)]) (st1 := [.int v5]) (s1 := s) rfl ?_
    refine brk (K := (Kx (fun (i1 : Nat) (a1 : Unit) => ∀ (u1_3 : Option Value) (u1_4 : Option Value), UP m_X4_signFault 2 [some (.ref 113), some (.int 0), some (.int (Int32.ofNat i1)), u1_3, u1_4] [] s (Qi s (F_signFault_2 s))) (fun (_ : Nat) (b1 : Int32) => (F_signFault_2 s) = b1) i1)) (m_cmp .ne v5 0) (.inl ()) (.inr (Int32.ofNat i1)) (by subst e5 e2; (try dsimp only [B_signFault_2_2] at kk ⊢); exact kk) (fun cc kk => ?_) (fun cc kk => ?_)
    · skip
      refine UP.ifT rfl cc ?_
      refine UP.stp 2 (i1 := 2) (L1 := [some (.ref 113), some (.int 0), some (.int ((Int32.ofNat i1) + 1)), some (.int v2), some (.int v5)]) (st1 := []) (s1 := s) rfl ?_
      subst e5 e2
      rw [ofn_s]
      exact kk _ _
    · skip
      refine UP.ifF rfl cc ?_
      refine UP.stp 1 (i1 := 39) (L1 := [some (.ref 113), some (.int 0), some (.int (Int32.ofNat i1)), some (.int v2), some (.int v5)]) (st1 := [.int (Int32.ofNat i1)]) (s1 := s) rfl ?_
      have kk : (F_signFault_2 s) = Int32.ofNat i1 := by subst e5 e2; exact kk
      exact UP.ret (r := some (.int (Int32.ofNat i1))) rfl ⟨by rw [kk], rfl⟩
  · skip
    intro u1_3 u1_4
    refine UP.eqT ((-1)) (by have q : (F_signFault_2 s) = Sum.elim (fun z1 : Unit => (-1)) (fun x : Nat × (Int32) => x.2) (itx (B_signFault_2_2 s) 0 ((s 113 1).toNatClampNeg) ()) := (by first | (dsimp only [F_signFault_2]; done) | (dsimp only; done) | rfl); rw [q, e1]; first | (dsimp only [Sum.elim_inl]; done) | rfl) ?_
    refine UP.stp 3 (i1 := 5) (L1 := [some (.ref 113), some (.int 0), some (.int (Int32.ofNat ((s 113 1).toNatClampNeg))), u1_3, u1_4]) (st1 := [.int (s 113 1), .int (Int32.ofNat ((s 113 1).toNatClampNeg))]) (s1 := s) rfl ?_
    refine UP.icT rfl (ge_T _) ?_
    refine UP.stp 1 (i1 := 43) (L1 := [some (.ref 113), some (.int 0), some (.int (Int32.ofNat ((s 113 1).toNatClampNeg))), u1_3, u1_4]) (st1 := [.int (-1)]) (s1 := s) rfl ?_
    exact UP.ret (r := some (.int (-1))) rfl ⟨by first | (dsimp only [F_signFault_2]; done) | (dsimp only; done) | rfl, by first | (dsimp only [F_signFault_2]; done) | (dsimp only; done) | rfl⟩
end
section
def W_takeCrew : List (Nat × Nat × Option Nat) := [(11, 12, none), (10, 10, some 0)]
def WL_takeCrew : List (Nat × Nat × Option Nat) := [(11, 12, none)]
def B_takeCrew_16  (i3 : Nat) (a3 : SG) : SG := let v4 := a3 110 ((3 * (Int32.ofNat i3)).toNatClampNeg); let v6 := bif m_cmp .ne v4 115 then (bif m_cmp .ne v4 102 then (2 : Int32) else (1 : Int32)) else (0 : Int32); let v7 := (a3 110 (((3 * (Int32.ofNat i3)) + 1).toNatClampNeg)) - 48; (uset (uset a3 11 i3 v6) 12 i3 v7)
set_option maxRecDepth 20000 in
set_option maxHeartbeats 200000 in
theorem fr_B_takeCrew_16  (i3 : Nat) (a3 : SG)   : Fr WL_takeCrew a3 ((B_takeCrew_16) i3 a3) := by dsimp only [B_takeCrew_16]; exact (let v4 : Int32 := a3 110 ((3 * (Int32.ofNat i3)).toNatClampNeg); (let v6 : Int32 := bif m_cmp .ne v4 115 then (bif m_cmp .ne v4 102 then (2 : Int32) else (1 : Int32)) else (0 : Int32); (let v7 : Int32 := (a3 110 (((3 * (Int32.ofNat i3)) + 1).toNatClampNeg)) - 48; (Fr.uset (s1 := (uset a3 11 i3 v6)) (a := 12) (j := i3) (x := v7) (by rfl) (Fr.uset (s1 := a3) (a := 11) (j := i3) (x := v6) (by rfl) (Fr.rf _ _))))))
def F_takeCrew (s : SG)  : SG := let v2 := bif m_cmp .ne (F_crewFault s) (-1) then (0 : Int32) else ((s 109 1) + 1) / 3; let z3 := itr (B_takeCrew_16) 0 (((uset s 10 0 v2) 10 0).toNatClampNeg) (uset s 10 0 v2); z3
set_option maxRecDepth 20000 in
set_option maxHeartbeats 200000 in
theorem fr_takeCrew (s : SG)   : Fr W_takeCrew s (F_takeCrew s) := by dsimp only [F_takeCrew]; exact (let v2 : Int32 := bif m_cmp .ne (F_crewFault s) (-1) then (0 : Int32) else ((s 109 1) + 1) / 3; (Fr.itr (W := W_takeCrew) (m := (fun x : SG => x)) (f := (B_takeCrew_16)) (fun ii aa => Fr.wk (W2 := W_takeCrew) (fr_B_takeCrew_16  ii aa ) (by rfl)) (((uset s 10 0 v2) 10 0).toNatClampNeg) 0 (uset s 10 0 v2) (Fr.uset (s1 := s) (a := 10) (j := 0) (x := v2) (by rfl) (Fr.rf _ _))))
set_option maxRecDepth 20000 in
set_option maxHeartbeats 200000 in
theorem ux_takeCrew (s : SG)   : UP m_X0_takeCrew 0 (m_ent 4 [.ref 10, .ref 109]) [] s (Qv (F_takeCrew s)) := by
  refine UP.stp 2 (i1 := 2) (L1 := [some (.ref 10), some (.ref 109), none, none]) (st1 := [.ref 109, .ref 10]) (s1 := s) rfl ?_
  refine UP.cI (M1 := m_X4_crewFault) (as := [.ref 109]) (rest := [.ref 10]) (T := F_crewFault s ) rfl rfl (ux_crewFault s ) ?_
  refine UP.stp 1 (i1 := 4) (L1 := [some (.ref 10), some (.ref 109), none, none]) (st1 := [.int (-1), .int (F_crewFault s), .ref 10]) (s1 := s) rfl ?_
  refine mrg (m_cmp .ne (F_crewFault s) (-1)) (0 : Int32) (((s 109 1) + 1) / 3) (fun v2 : Int32 => UP m_X0_takeCrew 13 [some (.ref 10), some (.ref 109), none, none] [.int v2, .ref 10] s (Qv (F_takeCrew s))) (fun cc kk => ?_) (fun cc kk => ?_) (fun v2 e2 => ?_)
  · skip
    refine UP.icT rfl cc ?_
    refine UP.stp 1 (i1 := 13) (L1 := [some (.ref 10), some (.ref 109), none, none]) (st1 := [.int 0, .ref 10]) (s1 := s) rfl ?_
    exact kk
  · skip
    refine UP.icF rfl cc ?_
    refine UP.stp 7 (i1 := 13) (L1 := [some (.ref 10), some (.ref 109), none, none]) (st1 := [.int (((s 109 1) + 1) / 3), .ref 10]) (s1 := s) rfl ?_
    exact kk
  refine UP.stp 3 (i1 := 16) (L1 := [some (.ref 10), some (.ref 109), some (.int 0), none]) (st1 := []) (s1 := (uset s 10 0 v2)) rfl ?_
  refine lp (fun (i3 : Nat) (a3 : SG) => ∀ (u3_3 : Option Value), UP m_X0_takeCrew 16 [some (.ref 10), some (.ref 109), some (.int (Int32.ofNat i3)), u3_3] [] a3 (Qv (F_takeCrew s))) (fun (_ : Nat) (a3 : SG) => Fr WL_takeCrew (uset s 10 0 v2) a3) (B_takeCrew_16) (((uset s 10 0 v2) 10 0).toNatClampNeg) (fun i3 a3 hi3 g3 => g3.tr (fr_B_takeCrew_16  i3 a3 )) (fun i3 a3 hi3 g3 kk => ?_) (((uset s 10 0 v2) 10 0).toNatClampNeg) (0) (uset s 10 0 v2) (by  omega) (Fr.rf _ _) (fun z3 e3 g3 => ?_) none
  · skip
    intro u3_3
    have hbi3 := cl_lt ((uset s 10 0 v2) 10 0)
    refine UP.stp 3 (i1 := 19) (L1 := [some (.ref 10), some (.ref 109), some (.int (Int32.ofNat i3)), u3_3]) (st1 := [.int (a3 10 0), .int (Int32.ofNat i3)]) (s1 := a3) rfl ?_
    refine UP.icF rfl (by rw [(g3 10 0 rfl)]; exact ge_F hi3) ?_
    refine UP.stp 6 (i1 := 26) (L1 := [some (.ref 10), some (.ref 109), some (.int (Int32.ofNat i3)), u3_3]) (st1 := [.int (a3 110 ((3 * (Int32.ofNat i3)).toNatClampNeg))]) (s1 := a3) rfl ?_
    refine nm (G := fun v4 => UP m_X0_takeCrew 26 [some (.ref 10), some (.ref 109), some (.int (Int32.ofNat i3)), u3_3] [.int v4] a3 (Qv (F_takeCrew s))) (a3 110 ((3 * (Int32.ofNat i3)).toNatClampNeg)) (fun v4 e4 => ?_)
    refine UP.stp 6 (i1 := 32) (L1 := [some (.ref 10), some (.ref 109), some (.int (Int32.ofNat i3)), some (.int v4)]) (st1 := [.int 115, .int v4, .int (Int32.ofNat i3), .ref 11]) (s1 := a3) rfl ?_
    refine mrg (m_cmp .ne v4 115) (bif m_cmp .ne v4 102 then (2 : Int32) else (1 : Int32)) (0 : Int32) (fun v6 : Int32 => UP m_X0_takeCrew 41 [some (.ref 10), some (.ref 109), some (.int (Int32.ofNat i3)), some (.int v4)] [.int v6, .int (Int32.ofNat i3), .ref 11] a3 (Qv (F_takeCrew s))) (fun cc kk => ?_) (fun cc kk => ?_) (fun v6 e6 => ?_)
    · skip
      refine UP.icT rfl cc ?_
      refine UP.stp 2 (i1 := 37) (L1 := [some (.ref 10), some (.ref 109), some (.int (Int32.ofNat i3)), some (.int v4)]) (st1 := [.int 102, .int v4, .int (Int32.ofNat i3), .ref 11]) (s1 := a3) rfl ?_
      refine mrg (m_cmp .ne v4 102) (2 : Int32) (1 : Int32) (fun v5 : Int32 => UP m_X0_takeCrew 41 [some (.ref 10), some (.ref 109), some (.int (Int32.ofNat i3)), some (.int v4)] [.int v5, .int (Int32.ofNat i3), .ref 11] a3 (Qv (F_takeCrew s))) (fun cc kk => ?_) (fun cc kk => ?_) (fun v5 e5 => ?_)
      · skip
        refine UP.icT rfl cc ?_
        refine UP.stp 1 (i1 := 41) (L1 := [some (.ref 10), some (.ref 109), some (.int (Int32.ofNat i3)), some (.int v4)]) (st1 := [.int 2, .int (Int32.ofNat i3), .ref 11]) (s1 := a3) rfl ?_
        exact kk
      · skip
        refine UP.icF rfl cc ?_
        refine UP.stp 2 (i1 := 41) (L1 := [some (.ref 10), some (.ref 109), some (.int (Int32.ofNat i3)), some (.int v4)]) (st1 := [.int 1, .int (Int32.ofNat i3), .ref 11]) (s1 := a3) rfl ?_
        exact kk
      subst e5
      exact kk
    · skip
      refine UP.icF rfl cc ?_
      refine UP.stp 2 (i1 := 41) (L1 := [some (.ref 10), some (.ref 109), some (.int (Int32.ofNat i3)), some (.int v4)]) (st1 := [.int 0, .int (Int32.ofNat i3), .ref 11]) (s1 := a3) rfl ?_
      exact kk
    refine UP.ast (e := i3) rfl rfl (by omega) ?_
    show UP m_X0_takeCrew 42 [some (.ref 10), some (.ref 109), some (.int (Int32.ofNat i3)), some (.int v4)] [] (uset a3 11 i3 v6) (Qv (F_takeCrew s))
    refine UP.stp 13 (i1 := 55) (L1 := [some (.ref 10), some (.ref 109), some (.int (Int32.ofNat i3)), some (.int v4)]) (st1 := [.int ((a3 110 (((3 * (Int32.ofNat i3)) + 1).toNatClampNeg)) - 48), .int (Int32.ofNat i3), .ref 12]) (s1 := (uset a3 11 i3 v6)) rfl ?_
    refine nm (G := fun v7 => UP m_X0_takeCrew 55 [some (.ref 10), some (.ref 109), some (.int (Int32.ofNat i3)), some (.int v4)] [.int v7, .int (Int32.ofNat i3), .ref 12] (uset a3 11 i3 v6) (Qv (F_takeCrew s))) ((a3 110 (((3 * (Int32.ofNat i3)) + 1).toNatClampNeg)) - 48) (fun v7 e7 => ?_)
    refine UP.ast (e := i3) rfl rfl (by omega) ?_
    show UP m_X0_takeCrew 56 [some (.ref 10), some (.ref 109), some (.int (Int32.ofNat i3)), some (.int v4)] [] (uset (uset a3 11 i3 v6) 12 i3 v7) (Qv (F_takeCrew s))
    refine UP.stp 2 (i1 := 16) (L1 := [some (.ref 10), some (.ref 109), some (.int ((Int32.ofNat i3) + 1)), some (.int v4)]) (st1 := []) (s1 := (uset (uset a3 11 i3 v6) 12 i3 v7)) rfl ?_
    subst e7 e6 e4
    rw [ofn_s]
    try dsimp only [B_takeCrew_16] at kk
    exact kk _
  intro u3_3
  refine UP.stp 3 (i1 := 19) (L1 := [some (.ref 10), some (.ref 109), some (.int (Int32.ofNat (((uset s 10 0 v2) 10 0).toNatClampNeg))), u3_3]) (st1 := [.int (z3 10 0), .int (Int32.ofNat (((uset s 10 0 v2) 10 0).toNatClampNeg))]) (s1 := z3) rfl ?_
  refine UP.icT rfl (by rw [(g3 10 0 rfl)]; exact ge_T _) ?_
  exact UP.ret (r := none) rfl ⟨by subst e3 e2; first | (dsimp only [F_takeCrew]; done) | (dsimp only; done) | rfl, by subst e3 e2; first | (dsimp only [F_takeCrew]; done) | (dsimp only; done) | rfl⟩
end
section
def W_takeRates : List (Nat × Nat × Option Nat) := [(13, 13, none)]
def B_takeRates_12 (v2 : Int32) (i3 : Nat) (a3 : SG) : SG := let v4 := bif m_cmp .ge (Int32.ofNat i3) v2 then (2 : Int32) else (a3 112 i3) - 48; (uset a3 13 i3 v4)
set_option maxRecDepth 20000 in
set_option maxHeartbeats 200000 in
theorem fr_B_takeRates_12 (v2 : Int32) (i3 : Nat) (a3 : SG)  (hi3 : i3 < 24) : Fr W_takeRates a3 ((B_takeRates_12 v2) i3 a3) := by dsimp only [B_takeRates_12]; exact (let v4 : Int32 := bif m_cmp .ge (Int32.ofNat i3) v2 then (2 : Int32) else (a3 112 i3) - 48; (Fr.uset (s1 := a3) (a := 13) (j := i3) (x := v4) (by rfl) (Fr.rf _ _)))
def F_takeRates (s : SG)  : SG := let v2 := bif m_cmp .ne (F_signFault_1 s) (-1) then (0 : Int32) else s 111 1; let z3 := itr (B_takeRates_12 v2) 0 24 s; z3
set_option maxRecDepth 20000 in
set_option maxHeartbeats 200000 in
theorem fr_takeRates (s : SG)   : Fr W_takeRates s (F_takeRates s) := by dsimp only [F_takeRates]; exact (let v2 : Int32 := bif m_cmp .ne (F_signFault_1 s) (-1) then (0 : Int32) else s 111 1; (frItrB (W := W_takeRates) (m := (fun x : SG => x)) (f := (B_takeRates_12 v2)) 24 (fun ii aa hh => Fr.wk (W2 := W_takeRates) (fr_B_takeRates_12 v2 ii aa  hh) (by rfl)) 24 0 s (by omega) (Fr.rf _ _)))
set_option maxRecDepth 20000 in
set_option maxHeartbeats 200000 in
theorem ux_takeRates (s : SG)   : UP m_X0_takeRates 0 (m_ent 4 [.ref 10, .ref 111]) [] s (Qv (F_takeRates s)) := by
  refine UP.stp 2 (i1 := 2) (L1 := [some (.ref 10), some (.ref 111), none, none]) (st1 := [.int 1, .ref 111]) (s1 := s) rfl ?_
  refine UP.cI (M1 := m_X4_signFault) (as := [.ref 111, .int 1]) (rest := []) (T := F_signFault_1 s ) rfl rfl (ux_signFault_1 s) ?_
  refine UP.stp 1 (i1 := 4) (L1 := [some (.ref 10), some (.ref 111), none, none]) (st1 := [.int (-1), .int (F_signFault_1 s)]) (s1 := s) rfl ?_
  refine mrg (m_cmp .ne (F_signFault_1 s) (-1)) (0 : Int32) (s 111 1) (fun v2 : Int32 => UP m_X0_takeRates 9 [some (.ref 10), some (.ref 111), none, none] [.int v2] s (Qv (F_takeRates s))) (fun cc kk => ?_) (fun cc kk => ?_) (fun v2 e2 => ?_)
  · skip
    refine UP.icT rfl cc ?_
    refine UP.stp 1 (i1 := 9) (L1 := [some (.ref 10), some (.ref 111), none, none]) (st1 := [.int 0]) (s1 := s) rfl ?_
    exact kk
  · skip
    refine UP.icF rfl cc ?_
    refine UP.stp 3 (i1 := 9) (L1 := [some (.ref 10), some (.ref 111), none, none]) (st1 := [.int (s 111 1)]) (s1 := s) rfl ?_
    exact kk
  refine UP.stp 3 (i1 := 12) (L1 := [some (.ref 10), some (.ref 111), some (.int v2), some (.int 0)]) (st1 := []) (s1 := s) rfl ?_
  refine lp (fun (i3 : Nat) (a3 : SG) => UP m_X0_takeRates 12 [some (.ref 10), some (.ref 111), some (.int v2), some (.int (Int32.ofNat i3))] [] a3 (Qv (F_takeRates s))) (fun (_ : Nat) (a3 : SG) => Fr W_takeRates s a3) (B_takeRates_12 v2) (24) (fun i3 a3 hi3 g3 => g3.tr (fr_B_takeRates_12 v2 i3 a3 hi3)) (fun i3 a3 hi3 g3 kk => ?_) 24 (0) s (by  omega) (Fr.rf _ _) (fun z3 e3 g3 => ?_)
  · skip
    refine UP.stp 2 (i1 := 14) (L1 := [some (.ref 10), some (.ref 111), some (.int v2), some (.int (Int32.ofNat i3))]) (st1 := [.int 24, .int (Int32.ofNat i3)]) (s1 := a3) rfl ?_
    refine UP.icF rfl (ge_F (show i3 < (24 : Int32).toNatClampNeg from hi3)) ?_
    refine UP.stp 5 (i1 := 20) (L1 := [some (.ref 10), some (.ref 111), some (.int v2), some (.int (Int32.ofNat i3))]) (st1 := [.int v2, .int (Int32.ofNat i3), .int (Int32.ofNat i3), .ref 13]) (s1 := a3) rfl ?_
    refine mrg (m_cmp .ge (Int32.ofNat i3) v2) (2 : Int32) ((a3 112 i3) - 48) (fun v4 : Int32 => UP m_X0_takeRates 29 [some (.ref 10), some (.ref 111), some (.int v2), some (.int (Int32.ofNat i3))] [.int v4, .int (Int32.ofNat i3), .ref 13] a3 (Qv (F_takeRates s))) (fun cc kk => ?_) (fun cc kk => ?_) (fun v4 e4 => ?_)
    · skip
      refine UP.icT rfl cc ?_
      refine UP.stp 1 (i1 := 29) (L1 := [some (.ref 10), some (.ref 111), some (.int v2), some (.int (Int32.ofNat i3))]) (st1 := [.int 2, .int (Int32.ofNat i3), .ref 13]) (s1 := a3) rfl ?_
      exact kk
    · skip
      refine UP.icF rfl cc ?_
      refine UP.stp 3 (i1 := 24) (L1 := [some (.ref 10), some (.ref 111), some (.int v2), some (.int (Int32.ofNat i3))]) (st1 := [.int (Int32.ofNat i3), .ref 112, .int (Int32.ofNat i3), .ref 13]) (s1 := a3) rfl ?_
      refine UP.ald (e := i3) rfl rfl (by omega) ?_
      show UP m_X0_takeRates 25 [some (.ref 10), some (.ref 111), some (.int v2), some (.int (Int32.ofNat i3))] [.int (a3 112 i3), .int (Int32.ofNat i3), .ref 13] a3 (Qv (F_takeRates s))
      refine UP.stp 3 (i1 := 29) (L1 := [some (.ref 10), some (.ref 111), some (.int v2), some (.int (Int32.ofNat i3))]) (st1 := [.int ((a3 112 i3) - 48), .int (Int32.ofNat i3), .ref 13]) (s1 := a3) rfl ?_
      exact kk
    refine UP.ast (e := i3) rfl rfl (by omega) ?_
    show UP m_X0_takeRates 30 [some (.ref 10), some (.ref 111), some (.int v2), some (.int (Int32.ofNat i3))] [] (uset a3 13 i3 v4) (Qv (F_takeRates s))
    refine UP.stp 2 (i1 := 12) (L1 := [some (.ref 10), some (.ref 111), some (.int v2), some (.int ((Int32.ofNat i3) + 1))]) (st1 := []) (s1 := (uset a3 13 i3 v4)) rfl ?_
    subst e4
    rw [ofn_s]
    try dsimp only [B_takeRates_12] at kk
    exact kk
  refine UP.stp 2 (i1 := 14) (L1 := [some (.ref 10), some (.ref 111), some (.int v2), some (.int (Int32.ofNat 24))]) (st1 := [.int 24, .int (Int32.ofNat 24)]) (s1 := z3) rfl ?_
  refine UP.icT rfl (ge_T (24 : Int32)) ?_
  exact UP.ret (r := none) rfl ⟨by subst e3 e2; first | (dsimp only [F_takeRates]; done) | (dsimp only; done) | rfl, by subst e3 e2; first | (dsimp only [F_takeRates]; done) | (dsimp only; done) | rfl⟩
end
section
def W_takeRudder : List (Nat × Nat × Option Nat) := [(14, 14, none)]
def B_takeRudder_12 (v2 : Int32) (i3 : Nat) (a3 : SG) : SG := let v4 := bif m_cmp .ge (Int32.ofNat i3) v2 then (45 : Int32) else a3 114 i3; let v6 := bif m_cmp .ne v4 108 then (bif m_cmp .ne v4 114 then (0 : Int32) else (2 : Int32)) else (1 : Int32); (uset a3 14 i3 v6)
set_option maxRecDepth 20000 in
set_option maxHeartbeats 200000 in
theorem fr_B_takeRudder_12 (v2 : Int32) (i3 : Nat) (a3 : SG)  (hi3 : i3 < 24) : Fr W_takeRudder a3 ((B_takeRudder_12 v2) i3 a3) := by dsimp only [B_takeRudder_12]; exact (let v4 : Int32 := bif m_cmp .ge (Int32.ofNat i3) v2 then (45 : Int32) else a3 114 i3; (let v6 : Int32 := bif m_cmp .ne v4 108 then (bif m_cmp .ne v4 114 then (0 : Int32) else (2 : Int32)) else (1 : Int32); (Fr.uset (s1 := a3) (a := 14) (j := i3) (x := v6) (by rfl) (Fr.rf _ _))))
def F_takeRudder (s : SG)  : SG := let v2 := bif m_cmp .ne (F_signFault_2 s) (-1) then (0 : Int32) else s 113 1; let z3 := itr (B_takeRudder_12 v2) 0 24 s; z3
set_option maxRecDepth 20000 in
set_option maxHeartbeats 200000 in
theorem fr_takeRudder (s : SG)   : Fr W_takeRudder s (F_takeRudder s) := by dsimp only [F_takeRudder]; exact (let v2 : Int32 := bif m_cmp .ne (F_signFault_2 s) (-1) then (0 : Int32) else s 113 1; (frItrB (W := W_takeRudder) (m := (fun x : SG => x)) (f := (B_takeRudder_12 v2)) 24 (fun ii aa hh => Fr.wk (W2 := W_takeRudder) (fr_B_takeRudder_12 v2 ii aa  hh) (by rfl)) 24 0 s (by omega) (Fr.rf _ _)))
set_option maxRecDepth 20000 in
set_option maxHeartbeats 200000 in
theorem ux_takeRudder (s : SG)   : UP m_X0_takeRudder 0 (m_ent 5 [.ref 10, .ref 113]) [] s (Qv (F_takeRudder s)) := by
  refine UP.stp 2 (i1 := 2) (L1 := [some (.ref 10), some (.ref 113), none, none, none]) (st1 := [.int 0, .ref 113]) (s1 := s) rfl ?_
  refine UP.cI (M1 := m_X4_signFault) (as := [.ref 113, .int 0]) (rest := []) (T := F_signFault_2 s ) rfl rfl (ux_signFault_2 s) ?_
  refine UP.stp 1 (i1 := 4) (L1 := [some (.ref 10), some (.ref 113), none, none, none]) (st1 := [.int (-1), .int (F_signFault_2 s)]) (s1 := s) rfl ?_
  refine mrg (m_cmp .ne (F_signFault_2 s) (-1)) (0 : Int32) (s 113 1) (fun v2 : Int32 => UP m_X0_takeRudder 9 [some (.ref 10), some (.ref 113), none, none, none] [.int v2] s (Qv (F_takeRudder s))) (fun cc kk => ?_) (fun cc kk => ?_) (fun v2 e2 => ?_)
  · skip
    refine UP.icT rfl cc ?_
    refine UP.stp 1 (i1 := 9) (L1 := [some (.ref 10), some (.ref 113), none, none, none]) (st1 := [.int 0]) (s1 := s) rfl ?_
    exact kk
  · skip
    refine UP.icF rfl cc ?_
    refine UP.stp 3 (i1 := 9) (L1 := [some (.ref 10), some (.ref 113), none, none, none]) (st1 := [.int (s 113 1)]) (s1 := s) rfl ?_
    exact kk
  refine UP.stp 3 (i1 := 12) (L1 := [some (.ref 10), some (.ref 113), some (.int v2), some (.int 0), none]) (st1 := []) (s1 := s) rfl ?_
  refine lp (fun (i3 : Nat) (a3 : SG) => ∀ (u3_4 : Option Value), UP m_X0_takeRudder 12 [some (.ref 10), some (.ref 113), some (.int v2), some (.int (Int32.ofNat i3)), u3_4] [] a3 (Qv (F_takeRudder s))) (fun (_ : Nat) (a3 : SG) => Fr W_takeRudder s a3) (B_takeRudder_12 v2) (24) (fun i3 a3 hi3 g3 => g3.tr (fr_B_takeRudder_12 v2 i3 a3 hi3)) (fun i3 a3 hi3 g3 kk => ?_) 24 (0) s (by  omega) (Fr.rf _ _) (fun z3 e3 g3 => ?_) none
  · skip
    intro u3_4
    refine UP.stp 2 (i1 := 14) (L1 := [some (.ref 10), some (.ref 113), some (.int v2), some (.int (Int32.ofNat i3)), u3_4]) (st1 := [.int 24, .int (Int32.ofNat i3)]) (s1 := a3) rfl ?_
    refine UP.icF rfl (ge_F (show i3 < (24 : Int32).toNatClampNeg from hi3)) ?_
    refine UP.stp 2 (i1 := 17) (L1 := [some (.ref 10), some (.ref 113), some (.int v2), some (.int (Int32.ofNat i3)), u3_4]) (st1 := [.int v2, .int (Int32.ofNat i3)]) (s1 := a3) rfl ?_
    refine mrg (m_cmp .ge (Int32.ofNat i3) v2) (45 : Int32) (a3 114 i3) (fun v4 : Int32 => UP m_X0_takeRudder 24 [some (.ref 10), some (.ref 113), some (.int v2), some (.int (Int32.ofNat i3)), u3_4] [.int v4] a3 (Qv (F_takeRudder s))) (fun cc kk => ?_) (fun cc kk => ?_) (fun v4 e4 => ?_)
    · skip
      refine UP.icT rfl cc ?_
      refine UP.stp 1 (i1 := 24) (L1 := [some (.ref 10), some (.ref 113), some (.int v2), some (.int (Int32.ofNat i3)), u3_4]) (st1 := [.int 45]) (s1 := a3) rfl ?_
      exact kk
    · skip
      refine UP.icF rfl cc ?_
      refine UP.stp 3 (i1 := 21) (L1 := [some (.ref 10), some (.ref 113), some (.int v2), some (.int (Int32.ofNat i3)), u3_4]) (st1 := [.int (Int32.ofNat i3), .ref 114]) (s1 := a3) rfl ?_
      refine UP.ald (e := i3) rfl rfl (by omega) ?_
      show UP m_X0_takeRudder 22 [some (.ref 10), some (.ref 113), some (.int v2), some (.int (Int32.ofNat i3)), u3_4] [.int (a3 114 i3)] a3 (Qv (F_takeRudder s))
      refine UP.stp 1 (i1 := 24) (L1 := [some (.ref 10), some (.ref 113), some (.int v2), some (.int (Int32.ofNat i3)), u3_4]) (st1 := [.int (a3 114 i3)]) (s1 := a3) rfl ?_
      exact kk
    refine UP.stp 6 (i1 := 30) (L1 := [some (.ref 10), some (.ref 113), some (.int v2), some (.int (Int32.ofNat i3)), some (.int v4)]) (st1 := [.int 108, .int v4, .int (Int32.ofNat i3), .ref 14]) (s1 := a3) rfl ?_
    refine mrg (m_cmp .ne v4 108) (bif m_cmp .ne v4 114 then (0 : Int32) else (2 : Int32)) (1 : Int32) (fun v6 : Int32 => UP m_X0_takeRudder 39 [some (.ref 10), some (.ref 113), some (.int v2), some (.int (Int32.ofNat i3)), some (.int v4)] [.int v6, .int (Int32.ofNat i3), .ref 14] a3 (Qv (F_takeRudder s))) (fun cc kk => ?_) (fun cc kk => ?_) (fun v6 e6 => ?_)
    · skip
      refine UP.icT rfl cc ?_
      refine UP.stp 2 (i1 := 35) (L1 := [some (.ref 10), some (.ref 113), some (.int v2), some (.int (Int32.ofNat i3)), some (.int v4)]) (st1 := [.int 114, .int v4, .int (Int32.ofNat i3), .ref 14]) (s1 := a3) rfl ?_
      refine mrg (m_cmp .ne v4 114) (0 : Int32) (2 : Int32) (fun v5 : Int32 => UP m_X0_takeRudder 39 [some (.ref 10), some (.ref 113), some (.int v2), some (.int (Int32.ofNat i3)), some (.int v4)] [.int v5, .int (Int32.ofNat i3), .ref 14] a3 (Qv (F_takeRudder s))) (fun cc kk => ?_) (fun cc kk => ?_) (fun v5 e5 => ?_)
      · skip
        refine UP.icT rfl cc ?_
        refine UP.stp 1 (i1 := 39) (L1 := [some (.ref 10), some (.ref 113), some (.int v2), some (.int (Int32.ofNat i3)), some (.int v4)]) (st1 := [.int 0, .int (Int32.ofNat i3), .ref 14]) (s1 := a3) rfl ?_
        exact kk
      · skip
        refine UP.icF rfl cc ?_
        refine UP.stp 2 (i1 := 39) (L1 := [some (.ref 10), some (.ref 113), some (.int v2), some (.int (Int32.ofNat i3)), some (.int v4)]) (st1 := [.int 2, .int (Int32.ofNat i3), .ref 14]) (s1 := a3) rfl ?_
        exact kk
      subst e5
      exact kk
    · skip
      refine UP.icF rfl cc ?_
      refine UP.stp 2 (i1 := 39) (L1 := [some (.ref 10), some (.ref 113), some (.int v2), some (.int (Int32.ofNat i3)), some (.int v4)]) (st1 := [.int 1, .int (Int32.ofNat i3), .ref 14]) (s1 := a3) rfl ?_
      exact kk
    refine UP.ast (e := i3) rfl rfl (by omega) ?_
    show UP m_X0_takeRudder 40 [some (.ref 10), some (.ref 113), some (.int v2), some (.int (Int32.ofNat i3)), some (.int v4)] [] (uset a3 14 i3 v6) (Qv (F_takeRudder s))
    refine UP.stp 2 (i1 := 12) (L1 := [some (.ref 10), some (.ref 113), some (.int v2), some (.int ((Int32.ofNat i3) + 1)), some (.int v4)]) (st1 := []) (s1 := (uset a3 14 i3 v6)) rfl ?_
    subst e6 e4
    rw [ofn_s]
    try dsimp only [B_takeRudder_12] at kk
    exact kk _
  intro u3_4
  refine UP.stp 2 (i1 := 14) (L1 := [some (.ref 10), some (.ref 113), some (.int v2), some (.int (Int32.ofNat 24)), u3_4]) (st1 := [.int 24, .int (Int32.ofNat 24)]) (s1 := z3) rfl ?_
  refine UP.icT rfl (ge_T (24 : Int32)) ?_
  exact UP.ret (r := none) rfl ⟨by subst e3 e2; first | (dsimp only [F_takeRudder]; done) | (dsimp only; done) | rfl, by subst e3 e2; first | (dsimp only [F_takeRudder]; done) | (dsimp only; done) | rfl⟩
def W_retell_0 : List (Nat × Nat × Option Nat) := [(10, 10, some 0), (11, 14, none), (0, 0, some 12), (0, 0, some 13), (109, 114, none)]
def F_retell_0 (s : SG)  : SG := let z1 := F_takeCrew s ; let z2 := F_mark z1 ; z2
set_option maxRecDepth 20000 in
set_option maxHeartbeats 200000 in
theorem fr_retell_0 (s : SG)   : Fr W_retell_0 s (F_retell_0 s) := by dsimp only [F_retell_0]; exact (let z1 : SG := F_takeCrew s ; (Fr.tr (s1 := z1) (Fr.tr (s1 := s) (Fr.rf _ _) (Fr.wk (W2 := W_retell_0) (fr_takeCrew s ) (by rfl))) (Fr.wk (W2 := W_retell_0) (fr_mark z1 ) (by rfl))))
set_option maxRecDepth 20000 in
set_option maxHeartbeats 200000 in
theorem ux_retell_0 (s : SG)   : UP m_X6_retell 0 (m_ent 2 [.ref 0, .int 0]) [] s (Qv (F_retell_0 s)) := by
  refine UP.stp 7 (i1 := 7) (L1 := [some (.ref 0), some (.int 0)]) (st1 := [.int 0, .ref 1, .ref 10]) (s1 := s) rfl ?_
  refine UP.aald (e := 0) (r := 109) rfl rfl (by omega) rfl ?_
  refine UP.cV (M1 := m_X0_takeCrew) (as := [.ref 10, .ref 109]) (rest := []) (T := F_takeCrew s ) rfl rfl (ux_takeCrew s ) (fun z1 e1 => ?_)
  refine UP.stp 2 (i1 := 29) (L1 := [some (.ref 0), some (.int 0)]) (st1 := [.ref 0]) (s1 := z1) rfl ?_
  refine UP.cV (M1 := m_X6_markChanged) (as := [.ref 0]) (rest := []) (T := F_mark z1 ) rfl rfl (ux_mark z1 ) (fun z2 e2 => ?_)
  exact UP.ret (r := none) rfl ⟨by subst e2 e1; first | (dsimp only [F_retell_0]; done) | (dsimp only; done) | rfl, by subst e2 e1; first | (dsimp only [F_retell_0]; done) | (dsimp only; done) | rfl⟩
end
section
def W_ctype_0 : List (Nat × Nat × Option Nat) := [(10, 10, some 0), (11, 14, none), (0, 0, some 12), (0, 0, some 13), (109, 114, none)]
def F_ctype_0 (s : SG) (b : Int32) : Int32 × SG := bif m_cmp .eq (F_isBelow s 0 3) 0 then (((-2), s)) else (bif m_cmp .ne (F_isBelow s b 256) 0 then (bif m_cmp .lt (s 109 1) 23 then (let v9 := (s 109 1) + 1; let z10 := F_retell_0 (uset (uset s 110 ((s 109 1).toNatClampNeg) b) 109 1 v9) ; (z10 109 1, z10)) else (((-4), s))) else (((-2), s)))
set_option maxRecDepth 20000 in
set_option maxHeartbeats 200000 in
theorem fr_ctype_0 (s : SG) (b : Int32)  : Fr W_ctype_0 s (F_ctype_0 s b).2 := by dsimp only [F_ctype_0]; exact (Fr.bifp (b := m_cmp .eq (F_isBelow s 0 3) 0) (x := ((-2), s)) (y := bif m_cmp .ne (F_isBelow s b 256) 0 then (bif m_cmp .lt (s 109 1) 23 then (let v9 := (s 109 1) + 1; let z10 := F_retell_0 (uset (uset s 110 ((s 109 1).toNatClampNeg) b) 109 1 v9) ; (z10 109 1, z10)) else (((-4), s))) else (((-2), s))) (fun x : Int32 × SG => x.2) (by (try dsimp only); exact (Fr.rf _ _)) (by (try dsimp only); exact (Fr.bifp (b := m_cmp .ne (F_isBelow s b 256) 0) (x := bif m_cmp .lt (s 109 1) 23 then (let v9 := (s 109 1) + 1; let z10 := F_retell_0 (uset (uset s 110 ((s 109 1).toNatClampNeg) b) 109 1 v9) ; (z10 109 1, z10)) else (((-4), s))) (y := ((-2), s)) (fun x : Int32 × SG => x.2) (by (try dsimp only); exact (Fr.bifp (b := m_cmp .lt (s 109 1) 23) (x := let v9 := (s 109 1) + 1; let z10 := F_retell_0 (uset (uset s 110 ((s 109 1).toNatClampNeg) b) 109 1 v9) ; (z10 109 1, z10)) (y := ((-4), s)) (fun x : Int32 × SG => x.2) (by (try dsimp only); exact (let v9 : Int32 := (s 109 1) + 1; (Fr.tr (s1 := (uset (uset s 110 ((s 109 1).toNatClampNeg) b) 109 1 v9)) (Fr.uset (s1 := (uset s 110 ((s 109 1).toNatClampNeg) b)) (a := 109) (j := 1) (x := v9) (by rfl) (Fr.uset (s1 := s) (a := 110) (j := (s 109 1).toNatClampNeg) (x := b) (by rfl) (Fr.rf _ _))) (Fr.wk (W2 := W_ctype_0) (fr_retell_0 (uset (uset s 110 ((s 109 1).toNatClampNeg) b) 109 1 v9) ) (by rfl))))) (by (try dsimp only); exact (Fr.rf _ _)))) (by (try dsimp only); exact (Fr.rf _ _)))))
set_option maxRecDepth 20000 in
set_option maxHeartbeats 200000 in
theorem ux_ctype_0 (s : SG) (b : Int32)  : UP m_X6_type 0 (m_ent 4 [.ref 0, .int 0, .int b]) [] s (Qb (F_ctype_0 s b)) := by
  refine UP.stp 2 (i1 := 2) (L1 := [some (.ref 0), some (.int 0), some (.int b), none]) (st1 := [.int 3, .int 0]) (s1 := s) rfl ?_
  refine UP.cI (M1 := m_X6_isBelow) (as := [.int 0, .int 3]) (rest := []) (T := F_isBelow s 0 3) rfl rfl (ux_isBelow s 0 3) ?_
  refine UP.spl (m_cmp .eq (F_isBelow s 0 3) 0) (((-2), s)) (bif m_cmp .ne (F_isBelow s b 256) 0 then (bif m_cmp .lt (s 109 1) 23 then (let v9 := (s 109 1) + 1; let z10 := F_retell_0 (uset (uset s 110 ((s 109 1).toNatClampNeg) b) 109 1 v9) ; (z10 109 1, z10)) else (((-4), s))) else (((-2), s))) (by first | (dsimp only [F_ctype_0]; done) | (dsimp only; done) | rfl) (fun cc => ?_) (fun cc => ?_)
  · skip
    refine UP.ifT rfl cc ?_
    refine UP.stp 1 (i1 := 9) (L1 := [some (.ref 0), some (.int 0), some (.int b), none]) (st1 := [.int (-2)]) (s1 := s) rfl ?_
    exact UP.ret (r := some (.int (-2))) rfl ⟨by first | (dsimp only [F_ctype_0]; done) | (dsimp only; done) | rfl, by first | (dsimp only [F_ctype_0]; done) | (dsimp only; done) | rfl⟩
  · skip
    refine UP.ifF rfl cc ?_
    refine UP.stp 2 (i1 := 6) (L1 := [some (.ref 0), some (.int 0), some (.int b), none]) (st1 := [.int 256, .int b]) (s1 := s) rfl ?_
    refine UP.cI (M1 := m_X6_isBelow) (as := [.int b, .int 256]) (rest := []) (T := F_isBelow s b 256) rfl rfl (ux_isBelow s b 256) ?_
    refine UP.spl (m_cmp .ne (F_isBelow s b 256) 0) (bif m_cmp .lt (s 109 1) 23 then (let v9 := (s 109 1) + 1; let z10 := F_retell_0 (uset (uset s 110 ((s 109 1).toNatClampNeg) b) 109 1 v9) ; (z10 109 1, z10)) else (((-4), s))) (((-2), s)) (by first | (dsimp only [F_ctype_0]; done) | (dsimp only; done) | rfl) (fun cc => ?_) (fun cc => ?_)
    · skip
      refine UP.ifT rfl cc ?_
      refine UP.stp 3 (i1 := 13) (L1 := [some (.ref 0), some (.int 0), some (.int b), none]) (st1 := [.int 0, .ref 1]) (s1 := s) rfl ?_
      refine UP.aald (e := 0) (r := 109) rfl rfl (by omega) rfl ?_
      refine UP.stp 6 (i1 := 20) (L1 := [some (.ref 0), some (.int 0), some (.int b), some (.ref 109)]) (st1 := [.int 23, .int (s 109 1)]) (s1 := s) rfl ?_
      refine UP.spl (m_cmp .lt (s 109 1) 23) (let v9 := (s 109 1) + 1; let z10 := F_retell_0 (uset (uset s 110 ((s 109 1).toNatClampNeg) b) 109 1 v9) ; (z10 109 1, z10)) (((-4), s)) (by first | (dsimp only [F_ctype_0]; done) | (dsimp only; done) | rfl) (fun cc => ?_) (fun cc => ?_)
      · skip
        refine UP.icT rfl cc ?_
        refine UP.stp 11 (i1 := 34) (L1 := [some (.ref 0), some (.int 0), some (.int b), some (.ref 109)]) (st1 := [.int ((s 109 1) + 1), .ref 109]) (s1 := (uset s 110 ((s 109 1).toNatClampNeg) b)) rfl ?_
        refine nm (G := fun v9 => UP m_X6_type 34 [some (.ref 0), some (.int 0), some (.int b), some (.ref 109)] [.int v9, .ref 109] (uset s 110 ((s 109 1).toNatClampNeg) b) (Qb (let v9 := (s 109 1) + 1; let z10 := F_retell_0 (uset (uset s 110 ((s 109 1).toNatClampNeg) b) 109 1 v9) ; (z10 109 1, z10)))) ((s 109 1) + 1) (fun v9 e9 => ?_)
        refine UP.stp 3 (i1 := 37) (L1 := [some (.ref 0), some (.int 0), some (.int b), some (.ref 109)]) (st1 := [.int 0, .ref 0]) (s1 := (uset (uset s 110 ((s 109 1).toNatClampNeg) b) 109 1 v9)) rfl ?_
        refine UP.cV (M1 := m_X6_retell) (as := [.ref 0, .int 0]) (rest := []) (T := F_retell_0 (uset (uset s 110 ((s 109 1).toNatClampNeg) b) 109 1 v9) ) rfl rfl (ux_retell_0 (uset (uset s 110 ((s 109 1).toNatClampNeg) b) 109 1 v9)) (fun z10 e10 => ?_)
        refine UP.stp 2 (i1 := 40) (L1 := [some (.ref 0), some (.int 0), some (.int b), some (.ref 109)]) (st1 := [.int (z10 109 1)]) (s1 := z10) rfl ?_
        exact UP.ret (r := some (.int (z10 109 1))) rfl ⟨by subst e10 e9; first | (dsimp only [F_ctype_0]; done) | (dsimp only; done) | rfl, by subst e10 e9; first | (dsimp only [F_ctype_0]; done) | (dsimp only; done) | rfl⟩
      · skip
        refine UP.icF rfl cc ?_
        refine UP.stp 1 (i1 := 22) (L1 := [some (.ref 0), some (.int 0), some (.int b), some (.ref 109)]) (st1 := [.int (-4)]) (s1 := s) rfl ?_
        exact UP.ret (r := some (.int (-4))) rfl ⟨by first | (dsimp only [F_ctype_0]; done) | (dsimp only; done) | rfl, by first | (dsimp only [F_ctype_0]; done) | (dsimp only; done) | rfl⟩
    · skip
      refine UP.ifF rfl cc ?_
      refine UP.stp 1 (i1 := 9) (L1 := [some (.ref 0), some (.int 0), some (.int b), none]) (st1 := [.int (-2)]) (s1 := s) rfl ?_
      exact UP.ret (r := some (.int (-2))) rfl ⟨by first | (dsimp only [F_ctype_0]; done) | (dsimp only; done) | rfl, by first | (dsimp only [F_ctype_0]; done) | (dsimp only; done) | rfl⟩
def W_cwipe_0 : List (Nat × Nat × Option Nat) := [(10, 10, some 0), (11, 14, none), (0, 0, some 12), (0, 0, some 13), (109, 114, none)]
def F_cwipe_0 (s : SG)  : Int32 × SG := bif m_cmp .ne (F_isBelow s 0 3) 0 then (let v4 := s 109 1; let z5 := F_retell_0 (uset s 109 1 0) ; (v4, z5)) else (((-2), s))
set_option maxRecDepth 20000 in
set_option maxHeartbeats 200000 in
theorem fr_cwipe_0 (s : SG)   : Fr W_cwipe_0 s (F_cwipe_0 s).2 := by dsimp only [F_cwipe_0]; exact (Fr.bifp (b := m_cmp .ne (F_isBelow s 0 3) 0) (x := let v4 := s 109 1; let z5 := F_retell_0 (uset s 109 1 0) ; (v4, z5)) (y := ((-2), s)) (fun x : Int32 × SG => x.2) (by (try dsimp only); exact (Fr.tr (s1 := (uset s 109 1 0)) (Fr.uset (s1 := s) (a := 109) (j := 1) (x := 0) (by rfl) (Fr.rf _ _)) (Fr.wk (W2 := W_cwipe_0) (fr_retell_0 (uset s 109 1 0) ) (by rfl)))) (by (try dsimp only); exact (Fr.rf _ _)))
set_option maxRecDepth 20000 in
set_option maxHeartbeats 200000 in
theorem ux_cwipe_0 (s : SG)   : UP m_X6_wipe 0 (m_ent 3 [.ref 0, .int 0]) [] s (Qb (F_cwipe_0 s)) := by
  refine UP.stp 2 (i1 := 2) (L1 := [some (.ref 0), some (.int 0), none]) (st1 := [.int 3, .int 0]) (s1 := s) rfl ?_
  refine UP.cI (M1 := m_X6_isBelow) (as := [.int 0, .int 3]) (rest := []) (T := F_isBelow s 0 3) rfl rfl (ux_isBelow s 0 3) ?_
  refine UP.spl (m_cmp .ne (F_isBelow s 0 3) 0) (let v4 := s 109 1; let z5 := F_retell_0 (uset s 109 1 0) ; (v4, z5)) (((-2), s)) (by first | (dsimp only [F_cwipe_0]; done) | (dsimp only; done) | rfl) (fun cc => ?_) (fun cc => ?_)
  · skip
    refine UP.ifT rfl cc ?_
    refine UP.stp 3 (i1 := 9) (L1 := [some (.ref 0), some (.int 0), none]) (st1 := [.int 0, .ref 1]) (s1 := s) rfl ?_
    refine UP.aald (e := 0) (r := 109) rfl rfl (by omega) rfl ?_
    refine UP.stp 1 (i1 := 11) (L1 := [some (.ref 0), some (.int 0), none]) (st1 := [.int (s 109 1)]) (s1 := s) rfl ?_
    refine nm (G := fun v4 => UP m_X6_wipe 11 [some (.ref 0), some (.int 0), none] [.int v4] s (Qb (let v4 := s 109 1; let z5 := F_retell_0 (uset s 109 1 0) ; (v4, z5)))) (s 109 1) (fun v4 e4 => ?_)
    refine UP.stp 4 (i1 := 15) (L1 := [some (.ref 0), some (.int 0), some (.int v4)]) (st1 := [.int 0, .ref 1]) (s1 := s) rfl ?_
    refine UP.aald (e := 0) (r := 109) rfl rfl (by omega) rfl ?_
    refine UP.stp 4 (i1 := 20) (L1 := [some (.ref 0), some (.int 0), some (.int v4)]) (st1 := [.int 0, .ref 0]) (s1 := (uset s 109 1 0)) rfl ?_
    refine UP.cV (M1 := m_X6_retell) (as := [.ref 0, .int 0]) (rest := []) (T := F_retell_0 (uset s 109 1 0) ) rfl rfl (ux_retell_0 (uset s 109 1 0)) (fun z5 e5 => ?_)
    refine UP.stp 1 (i1 := 22) (L1 := [some (.ref 0), some (.int 0), some (.int v4)]) (st1 := [.int v4]) (s1 := z5) rfl ?_
    exact UP.ret (r := some (.int v4)) rfl ⟨by subst e5 e4; first | (dsimp only [F_cwipe_0]; done) | (dsimp only; done) | rfl, by subst e5 e4; first | (dsimp only [F_cwipe_0]; done) | (dsimp only; done) | rfl⟩
  · skip
    refine UP.ifF rfl cc ?_
    refine UP.stp 1 (i1 := 5) (L1 := [some (.ref 0), some (.int 0), none]) (st1 := [.int (-2)]) (s1 := s) rfl ?_
    exact UP.ret (r := some (.int (-2))) rfl ⟨by first | (dsimp only [F_cwipe_0]; done) | (dsimp only; done) | rfl, by first | (dsimp only [F_cwipe_0]; done) | (dsimp only; done) | rfl⟩
end
section
def W_cundo_0 : List (Nat × Nat × Option Nat) := [(10, 10, some 0), (11, 14, none), (0, 0, some 12), (0, 0, some 13), (109, 114, none)]
def F_cundo_0 (s : SG)  : Int32 × SG := bif m_cmp .ne (F_isBelow s 0 3) 0 then (bif m_cmp .ne (s 109 1) 0 then (let v6 := (s 109 1) - 1; let z7 := F_retell_0 (uset s 109 1 v6) ; (z7 109 1, z7)) else (((-3), s))) else (((-2), s))
set_option maxRecDepth 20000 in
set_option maxHeartbeats 200000 in
theorem fr_cundo_0 (s : SG)   : Fr W_cundo_0 s (F_cundo_0 s).2 := by dsimp only [F_cundo_0]; exact (Fr.bifp (b := m_cmp .ne (F_isBelow s 0 3) 0) (x := bif m_cmp .ne (s 109 1) 0 then (let v6 := (s 109 1) - 1; let z7 := F_retell_0 (uset s 109 1 v6) ; (z7 109 1, z7)) else (((-3), s))) (y := ((-2), s)) (fun x : Int32 × SG => x.2) (by (try dsimp only); exact (Fr.bifp (b := m_cmp .ne (s 109 1) 0) (x := let v6 := (s 109 1) - 1; let z7 := F_retell_0 (uset s 109 1 v6) ; (z7 109 1, z7)) (y := ((-3), s)) (fun x : Int32 × SG => x.2) (by (try dsimp only); exact (let v6 : Int32 := (s 109 1) - 1; (Fr.tr (s1 := (uset s 109 1 v6)) (Fr.uset (s1 := s) (a := 109) (j := 1) (x := v6) (by rfl) (Fr.rf _ _)) (Fr.wk (W2 := W_cundo_0) (fr_retell_0 (uset s 109 1 v6) ) (by rfl))))) (by (try dsimp only); exact (Fr.rf _ _)))) (by (try dsimp only); exact (Fr.rf _ _)))
set_option maxRecDepth 20000 in
set_option maxHeartbeats 200000 in
theorem ux_cundo_0 (s : SG)   : UP m_X6_undo 0 (m_ent 2 [.ref 0, .int 0]) [] s (Qb (F_cundo_0 s)) := by
  refine UP.stp 2 (i1 := 2) (L1 := [some (.ref 0), some (.int 0)]) (st1 := [.int 3, .int 0]) (s1 := s) rfl ?_
  refine UP.cI (M1 := m_X6_isBelow) (as := [.int 0, .int 3]) (rest := []) (T := F_isBelow s 0 3) rfl rfl (ux_isBelow s 0 3) ?_
  refine UP.spl (m_cmp .ne (F_isBelow s 0 3) 0) (bif m_cmp .ne (s 109 1) 0 then (let v6 := (s 109 1) - 1; let z7 := F_retell_0 (uset s 109 1 v6) ; (z7 109 1, z7)) else (((-3), s))) (((-2), s)) (by first | (dsimp only [F_cundo_0]; done) | (dsimp only; done) | rfl) (fun cc => ?_) (fun cc => ?_)
  · skip
    refine UP.ifT rfl cc ?_
    refine UP.stp 3 (i1 := 9) (L1 := [some (.ref 0), some (.int 0)]) (st1 := [.int 0, .ref 1]) (s1 := s) rfl ?_
    refine UP.aald (e := 0) (r := 109) rfl rfl (by omega) rfl ?_
    refine UP.stp 1 (i1 := 11) (L1 := [some (.ref 0), some (.int 0)]) (st1 := [.int (s 109 1)]) (s1 := s) rfl ?_
    refine UP.spl (m_cmp .ne (s 109 1) 0) (let v6 := (s 109 1) - 1; let z7 := F_retell_0 (uset s 109 1 v6) ; (z7 109 1, z7)) (((-3), s)) (by first | (dsimp only [F_cundo_0]; done) | (dsimp only; done) | rfl) (fun cc => ?_) (fun cc => ?_)
    · skip
      refine UP.ifT rfl cc ?_
      refine UP.stp 3 (i1 := 17) (L1 := [some (.ref 0), some (.int 0)]) (st1 := [.int 0, .ref 1]) (s1 := s) rfl ?_
      refine UP.aald (e := 0) (r := 109) rfl rfl (by omega) rfl ?_
      refine UP.stp 4 (i1 := 22) (L1 := [some (.ref 0), some (.int 0)]) (st1 := [.int ((s 109 1) - 1), .ref 109]) (s1 := s) rfl ?_
      refine nm (G := fun v6 => UP m_X6_undo 22 [some (.ref 0), some (.int 0)] [.int v6, .ref 109] s (Qb (let v6 := (s 109 1) - 1; let z7 := F_retell_0 (uset s 109 1 v6) ; (z7 109 1, z7)))) ((s 109 1) - 1) (fun v6 e6 => ?_)
      refine UP.stp 3 (i1 := 25) (L1 := [some (.ref 0), some (.int 0)]) (st1 := [.int 0, .ref 0]) (s1 := (uset s 109 1 v6)) rfl ?_
      refine UP.cV (M1 := m_X6_retell) (as := [.ref 0, .int 0]) (rest := []) (T := F_retell_0 (uset s 109 1 v6) ) rfl rfl (ux_retell_0 (uset s 109 1 v6)) (fun z7 e7 => ?_)
      refine UP.stp 3 (i1 := 29) (L1 := [some (.ref 0), some (.int 0)]) (st1 := [.int 0, .ref 1]) (s1 := z7) rfl ?_
      refine UP.aald (e := 0) (r := 109) rfl rfl (by omega) rfl ?_
      refine UP.stp 1 (i1 := 31) (L1 := [some (.ref 0), some (.int 0)]) (st1 := [.int (z7 109 1)]) (s1 := z7) rfl ?_
      exact UP.ret (r := some (.int (z7 109 1))) rfl ⟨by subst e7 e6; first | (dsimp only [F_cundo_0]; done) | (dsimp only; done) | rfl, by subst e7 e6; first | (dsimp only [F_cundo_0]; done) | (dsimp only; done) | rfl⟩
    · skip
      refine UP.ifF rfl cc ?_
      refine UP.stp 1 (i1 := 13) (L1 := [some (.ref 0), some (.int 0)]) (st1 := [.int (-3)]) (s1 := s) rfl ?_
      exact UP.ret (r := some (.int (-3))) rfl ⟨by first | (dsimp only [F_cundo_0]; done) | (dsimp only; done) | rfl, by first | (dsimp only [F_cundo_0]; done) | (dsimp only; done) | rfl⟩
  · skip
    refine UP.ifF rfl cc ?_
    refine UP.stp 1 (i1 := 5) (L1 := [some (.ref 0), some (.int 0)]) (st1 := [.int (-2)]) (s1 := s) rfl ?_
    exact UP.ret (r := some (.int (-2))) rfl ⟨by first | (dsimp only [F_cundo_0]; done) | (dsimp only; done) | rfl, by first | (dsimp only [F_cundo_0]; done) | (dsimp only; done) | rfl⟩
def W_retell_1 : List (Nat × Nat × Option Nat) := [(10, 10, some 0), (11, 14, none), (0, 0, some 12), (0, 0, some 13), (109, 114, none)]
def F_retell_1 (s : SG)  : SG := let z1 := F_takeRates s ; let z2 := F_mark z1 ; z2
set_option maxRecDepth 20000 in
set_option maxHeartbeats 200000 in
theorem fr_retell_1 (s : SG)   : Fr W_retell_1 s (F_retell_1 s) := by dsimp only [F_retell_1]; exact (let z1 : SG := F_takeRates s ; (Fr.tr (s1 := z1) (Fr.tr (s1 := s) (Fr.rf _ _) (Fr.wk (W2 := W_retell_1) (fr_takeRates s ) (by rfl))) (Fr.wk (W2 := W_retell_1) (fr_mark z1 ) (by rfl))))
set_option maxRecDepth 20000 in
set_option maxHeartbeats 200000 in
theorem ux_retell_1 (s : SG)   : UP m_X6_retell 0 (m_ent 2 [.ref 0, .int 1]) [] s (Qv (F_retell_1 s)) := by
  refine UP.stp 10 (i1 := 18) (L1 := [some (.ref 0), some (.int 1)]) (st1 := [.int 1, .ref 1, .ref 10]) (s1 := s) rfl ?_
  refine UP.aald (e := 1) (r := 111) rfl rfl (by omega) rfl ?_
  refine UP.cV (M1 := m_X0_takeRates) (as := [.ref 10, .ref 111]) (rest := []) (T := F_takeRates s ) rfl rfl (ux_takeRates s ) (fun z1 e1 => ?_)
  refine UP.stp 2 (i1 := 29) (L1 := [some (.ref 0), some (.int 1)]) (st1 := [.ref 0]) (s1 := z1) rfl ?_
  refine UP.cV (M1 := m_X6_markChanged) (as := [.ref 0]) (rest := []) (T := F_mark z1 ) rfl rfl (ux_mark z1 ) (fun z2 e2 => ?_)
  exact UP.ret (r := none) rfl ⟨by subst e2 e1; first | (dsimp only [F_retell_1]; done) | (dsimp only; done) | rfl, by subst e2 e1; first | (dsimp only [F_retell_1]; done) | (dsimp only; done) | rfl⟩
end
section
def W_ctype_1 : List (Nat × Nat × Option Nat) := [(10, 10, some 0), (11, 14, none), (0, 0, some 12), (0, 0, some 13), (109, 114, none)]
def F_ctype_1 (s : SG) (b : Int32) : Int32 × SG := bif m_cmp .eq (F_isBelow s 1 3) 0 then (((-2), s)) else (bif m_cmp .ne (F_isBelow s b 256) 0 then (bif m_cmp .lt (s 111 1) 24 then (let v9 := (s 111 1) + 1; let z10 := F_retell_1 (uset (uset s 112 ((s 111 1).toNatClampNeg) b) 111 1 v9) ; (z10 111 1, z10)) else (((-4), s))) else (((-2), s)))
set_option maxRecDepth 20000 in
set_option maxHeartbeats 200000 in
theorem fr_ctype_1 (s : SG) (b : Int32)  : Fr W_ctype_1 s (F_ctype_1 s b).2 := by dsimp only [F_ctype_1]; exact (Fr.bifp (b := m_cmp .eq (F_isBelow s 1 3) 0) (x := ((-2), s)) (y := bif m_cmp .ne (F_isBelow s b 256) 0 then (bif m_cmp .lt (s 111 1) 24 then (let v9 := (s 111 1) + 1; let z10 := F_retell_1 (uset (uset s 112 ((s 111 1).toNatClampNeg) b) 111 1 v9) ; (z10 111 1, z10)) else (((-4), s))) else (((-2), s))) (fun x : Int32 × SG => x.2) (by (try dsimp only); exact (Fr.rf _ _)) (by (try dsimp only); exact (Fr.bifp (b := m_cmp .ne (F_isBelow s b 256) 0) (x := bif m_cmp .lt (s 111 1) 24 then (let v9 := (s 111 1) + 1; let z10 := F_retell_1 (uset (uset s 112 ((s 111 1).toNatClampNeg) b) 111 1 v9) ; (z10 111 1, z10)) else (((-4), s))) (y := ((-2), s)) (fun x : Int32 × SG => x.2) (by (try dsimp only); exact (Fr.bifp (b := m_cmp .lt (s 111 1) 24) (x := let v9 := (s 111 1) + 1; let z10 := F_retell_1 (uset (uset s 112 ((s 111 1).toNatClampNeg) b) 111 1 v9) ; (z10 111 1, z10)) (y := ((-4), s)) (fun x : Int32 × SG => x.2) (by (try dsimp only); exact (let v9 : Int32 := (s 111 1) + 1; (Fr.tr (s1 := (uset (uset s 112 ((s 111 1).toNatClampNeg) b) 111 1 v9)) (Fr.uset (s1 := (uset s 112 ((s 111 1).toNatClampNeg) b)) (a := 111) (j := 1) (x := v9) (by rfl) (Fr.uset (s1 := s) (a := 112) (j := (s 111 1).toNatClampNeg) (x := b) (by rfl) (Fr.rf _ _))) (Fr.wk (W2 := W_ctype_1) (fr_retell_1 (uset (uset s 112 ((s 111 1).toNatClampNeg) b) 111 1 v9) ) (by rfl))))) (by (try dsimp only); exact (Fr.rf _ _)))) (by (try dsimp only); exact (Fr.rf _ _)))))
set_option maxRecDepth 20000 in
set_option maxHeartbeats 200000 in
theorem ux_ctype_1 (s : SG) (b : Int32)  : UP m_X6_type 0 (m_ent 4 [.ref 0, .int 1, .int b]) [] s (Qb (F_ctype_1 s b)) := by
  refine UP.stp 2 (i1 := 2) (L1 := [some (.ref 0), some (.int 1), some (.int b), none]) (st1 := [.int 3, .int 1]) (s1 := s) rfl ?_
  refine UP.cI (M1 := m_X6_isBelow) (as := [.int 1, .int 3]) (rest := []) (T := F_isBelow s 1 3) rfl rfl (ux_isBelow s 1 3) ?_
  refine UP.spl (m_cmp .eq (F_isBelow s 1 3) 0) (((-2), s)) (bif m_cmp .ne (F_isBelow s b 256) 0 then (bif m_cmp .lt (s 111 1) 24 then (let v9 := (s 111 1) + 1; let z10 := F_retell_1 (uset (uset s 112 ((s 111 1).toNatClampNeg) b) 111 1 v9) ; (z10 111 1, z10)) else (((-4), s))) else (((-2), s))) (by first | (dsimp only [F_ctype_1]; done) | (dsimp only; done) | rfl) (fun cc => ?_) (fun cc => ?_)
  · skip
    refine UP.ifT rfl cc ?_
    refine UP.stp 1 (i1 := 9) (L1 := [some (.ref 0), some (.int 1), some (.int b), none]) (st1 := [.int (-2)]) (s1 := s) rfl ?_
    exact UP.ret (r := some (.int (-2))) rfl ⟨by first | (dsimp only [F_ctype_1]; done) | (dsimp only; done) | rfl, by first | (dsimp only [F_ctype_1]; done) | (dsimp only; done) | rfl⟩
  · skip
    refine UP.ifF rfl cc ?_
    refine UP.stp 2 (i1 := 6) (L1 := [some (.ref 0), some (.int 1), some (.int b), none]) (st1 := [.int 256, .int b]) (s1 := s) rfl ?_
    refine UP.cI (M1 := m_X6_isBelow) (as := [.int b, .int 256]) (rest := []) (T := F_isBelow s b 256) rfl rfl (ux_isBelow s b 256) ?_
    refine UP.spl (m_cmp .ne (F_isBelow s b 256) 0) (bif m_cmp .lt (s 111 1) 24 then (let v9 := (s 111 1) + 1; let z10 := F_retell_1 (uset (uset s 112 ((s 111 1).toNatClampNeg) b) 111 1 v9) ; (z10 111 1, z10)) else (((-4), s))) (((-2), s)) (by first | (dsimp only [F_ctype_1]; done) | (dsimp only; done) | rfl) (fun cc => ?_) (fun cc => ?_)
    · skip
      refine UP.ifT rfl cc ?_
      refine UP.stp 3 (i1 := 13) (L1 := [some (.ref 0), some (.int 1), some (.int b), none]) (st1 := [.int 1, .ref 1]) (s1 := s) rfl ?_
      refine UP.aald (e := 1) (r := 111) rfl rfl (by omega) rfl ?_
      refine UP.stp 6 (i1 := 20) (L1 := [some (.ref 0), some (.int 1), some (.int b), some (.ref 111)]) (st1 := [.int 24, .int (s 111 1)]) (s1 := s) rfl ?_
      refine UP.spl (m_cmp .lt (s 111 1) 24) (let v9 := (s 111 1) + 1; let z10 := F_retell_1 (uset (uset s 112 ((s 111 1).toNatClampNeg) b) 111 1 v9) ; (z10 111 1, z10)) (((-4), s)) (by first | (dsimp only [F_ctype_1]; done) | (dsimp only; done) | rfl) (fun cc => ?_) (fun cc => ?_)
      · skip
        refine UP.icT rfl cc ?_
        refine UP.stp 11 (i1 := 34) (L1 := [some (.ref 0), some (.int 1), some (.int b), some (.ref 111)]) (st1 := [.int ((s 111 1) + 1), .ref 111]) (s1 := (uset s 112 ((s 111 1).toNatClampNeg) b)) rfl ?_
        refine nm (G := fun v9 => UP m_X6_type 34 [some (.ref 0), some (.int 1), some (.int b), some (.ref 111)] [.int v9, .ref 111] (uset s 112 ((s 111 1).toNatClampNeg) b) (Qb (let v9 := (s 111 1) + 1; let z10 := F_retell_1 (uset (uset s 112 ((s 111 1).toNatClampNeg) b) 111 1 v9) ; (z10 111 1, z10)))) ((s 111 1) + 1) (fun v9 e9 => ?_)
        refine UP.stp 3 (i1 := 37) (L1 := [some (.ref 0), some (.int 1), some (.int b), some (.ref 111)]) (st1 := [.int 1, .ref 0]) (s1 := (uset (uset s 112 ((s 111 1).toNatClampNeg) b) 111 1 v9)) rfl ?_
        refine UP.cV (M1 := m_X6_retell) (as := [.ref 0, .int 1]) (rest := []) (T := F_retell_1 (uset (uset s 112 ((s 111 1).toNatClampNeg) b) 111 1 v9) ) rfl rfl (ux_retell_1 (uset (uset s 112 ((s 111 1).toNatClampNeg) b) 111 1 v9)) (fun z10 e10 => ?_)
        refine UP.stp 2 (i1 := 40) (L1 := [some (.ref 0), some (.int 1), some (.int b), some (.ref 111)]) (st1 := [.int (z10 111 1)]) (s1 := z10) rfl ?_
        exact UP.ret (r := some (.int (z10 111 1))) rfl ⟨by subst e10 e9; first | (dsimp only [F_ctype_1]; done) | (dsimp only; done) | rfl, by subst e10 e9; first | (dsimp only [F_ctype_1]; done) | (dsimp only; done) | rfl⟩
      · skip
        refine UP.icF rfl cc ?_
        refine UP.stp 1 (i1 := 22) (L1 := [some (.ref 0), some (.int 1), some (.int b), some (.ref 111)]) (st1 := [.int (-4)]) (s1 := s) rfl ?_
        exact UP.ret (r := some (.int (-4))) rfl ⟨by first | (dsimp only [F_ctype_1]; done) | (dsimp only; done) | rfl, by first | (dsimp only [F_ctype_1]; done) | (dsimp only; done) | rfl⟩
    · skip
      refine UP.ifF rfl cc ?_
      refine UP.stp 1 (i1 := 9) (L1 := [some (.ref 0), some (.int 1), some (.int b), none]) (st1 := [.int (-2)]) (s1 := s) rfl ?_
      exact UP.ret (r := some (.int (-2))) rfl ⟨by first | (dsimp only [F_ctype_1]; done) | (dsimp only; done) | rfl, by first | (dsimp only [F_ctype_1]; done) | (dsimp only; done) | rfl⟩
def W_cwipe_1 : List (Nat × Nat × Option Nat) := [(10, 10, some 0), (11, 14, none), (0, 0, some 12), (0, 0, some 13), (109, 114, none)]
def F_cwipe_1 (s : SG)  : Int32 × SG := bif m_cmp .ne (F_isBelow s 1 3) 0 then (let v4 := s 111 1; let z5 := F_retell_1 (uset s 111 1 0) ; (v4, z5)) else (((-2), s))
set_option maxRecDepth 20000 in
set_option maxHeartbeats 200000 in
theorem fr_cwipe_1 (s : SG)   : Fr W_cwipe_1 s (F_cwipe_1 s).2 := by dsimp only [F_cwipe_1]; exact (Fr.bifp (b := m_cmp .ne (F_isBelow s 1 3) 0) (x := let v4 := s 111 1; let z5 := F_retell_1 (uset s 111 1 0) ; (v4, z5)) (y := ((-2), s)) (fun x : Int32 × SG => x.2) (by (try dsimp only); exact (Fr.tr (s1 := (uset s 111 1 0)) (Fr.uset (s1 := s) (a := 111) (j := 1) (x := 0) (by rfl) (Fr.rf _ _)) (Fr.wk (W2 := W_cwipe_1) (fr_retell_1 (uset s 111 1 0) ) (by rfl)))) (by (try dsimp only); exact (Fr.rf _ _)))
set_option maxRecDepth 20000 in
set_option maxHeartbeats 200000 in
theorem ux_cwipe_1 (s : SG)   : UP m_X6_wipe 0 (m_ent 3 [.ref 0, .int 1]) [] s (Qb (F_cwipe_1 s)) := by
  refine UP.stp 2 (i1 := 2) (L1 := [some (.ref 0), some (.int 1), none]) (st1 := [.int 3, .int 1]) (s1 := s) rfl ?_
  refine UP.cI (M1 := m_X6_isBelow) (as := [.int 1, .int 3]) (rest := []) (T := F_isBelow s 1 3) rfl rfl (ux_isBelow s 1 3) ?_
  refine UP.spl (m_cmp .ne (F_isBelow s 1 3) 0) (let v4 := s 111 1; let z5 := F_retell_1 (uset s 111 1 0) ; (v4, z5)) (((-2), s)) (by first | (dsimp only [F_cwipe_1]; done) | (dsimp only; done) | rfl) (fun cc => ?_) (fun cc => ?_)
  · skip
    refine UP.ifT rfl cc ?_
    refine UP.stp 3 (i1 := 9) (L1 := [some (.ref 0), some (.int 1), none]) (st1 := [.int 1, .ref 1]) (s1 := s) rfl ?_
    refine UP.aald (e := 1) (r := 111) rfl rfl (by omega) rfl ?_
    refine UP.stp 1 (i1 := 11) (L1 := [some (.ref 0), some (.int 1), none]) (st1 := [.int (s 111 1)]) (s1 := s) rfl ?_
    refine nm (G := fun v4 => UP m_X6_wipe 11 [some (.ref 0), some (.int 1), none] [.int v4] s (Qb (let v4 := s 111 1; let z5 := F_retell_1 (uset s 111 1 0) ; (v4, z5)))) (s 111 1) (fun v4 e4 => ?_)
    refine UP.stp 4 (i1 := 15) (L1 := [some (.ref 0), some (.int 1), some (.int v4)]) (st1 := [.int 1, .ref 1]) (s1 := s) rfl ?_
    refine UP.aald (e := 1) (r := 111) rfl rfl (by omega) rfl ?_
    refine UP.stp 4 (i1 := 20) (L1 := [some (.ref 0), some (.int 1), some (.int v4)]) (st1 := [.int 1, .ref 0]) (s1 := (uset s 111 1 0)) rfl ?_
    refine UP.cV (M1 := m_X6_retell) (as := [.ref 0, .int 1]) (rest := []) (T := F_retell_1 (uset s 111 1 0) ) rfl rfl (ux_retell_1 (uset s 111 1 0)) (fun z5 e5 => ?_)
    refine UP.stp 1 (i1 := 22) (L1 := [some (.ref 0), some (.int 1), some (.int v4)]) (st1 := [.int v4]) (s1 := z5) rfl ?_
    exact UP.ret (r := some (.int v4)) rfl ⟨by subst e5 e4; first | (dsimp only [F_cwipe_1]; done) | (dsimp only; done) | rfl, by subst e5 e4; first | (dsimp only [F_cwipe_1]; done) | (dsimp only; done) | rfl⟩
  · skip
    refine UP.ifF rfl cc ?_
    refine UP.stp 1 (i1 := 5) (L1 := [some (.ref 0), some (.int 1), none]) (st1 := [.int (-2)]) (s1 := s) rfl ?_
    exact UP.ret (r := some (.int (-2))) rfl ⟨by first | (dsimp only [F_cwipe_1]; done) | (dsimp only; done) | rfl, by first | (dsimp only [F_cwipe_1]; done) | (dsimp only; done) | rfl⟩
end
section
def W_cundo_1 : List (Nat × Nat × Option Nat) := [(10, 10, some 0), (11, 14, none), (0, 0, some 12), (0, 0, some 13), (109, 114, none)]
def F_cundo_1 (s : SG)  : Int32 × SG := bif m_cmp .ne (F_isBelow s 1 3) 0 then (bif m_cmp .ne (s 111 1) 0 then (let v6 := (s 111 1) - 1; let z7 := F_retell_1 (uset s 111 1 v6) ; (z7 111 1, z7)) else (((-3), s))) else (((-2), s))
set_option maxRecDepth 20000 in
set_option maxHeartbeats 200000 in
theorem fr_cundo_1 (s : SG)   : Fr W_cundo_1 s (F_cundo_1 s).2 := by dsimp only [F_cundo_1]; exact (Fr.bifp (b := m_cmp .ne (F_isBelow s 1 3) 0) (x := bif m_cmp .ne (s 111 1) 0 then (let v6 := (s 111 1) - 1; let z7 := F_retell_1 (uset s 111 1 v6) ; (z7 111 1, z7)) else (((-3), s))) (y := ((-2), s)) (fun x : Int32 × SG => x.2) (by (try dsimp only); exact (Fr.bifp (b := m_cmp .ne (s 111 1) 0) (x := let v6 := (s 111 1) - 1; let z7 := F_retell_1 (uset s 111 1 v6) ; (z7 111 1, z7)) (y := ((-3), s)) (fun x : Int32 × SG => x.2) (by (try dsimp only); exact (let v6 : Int32 := (s 111 1) - 1; (Fr.tr (s1 := (uset s 111 1 v6)) (Fr.uset (s1 := s) (a := 111) (j := 1) (x := v6) (by rfl) (Fr.rf _ _)) (Fr.wk (W2 := W_cundo_1) (fr_retell_1 (uset s 111 1 v6) ) (by rfl))))) (by (try dsimp only); exact (Fr.rf _ _)))) (by (try dsimp only); exact (Fr.rf _ _)))
set_option maxRecDepth 20000 in
set_option maxHeartbeats 200000 in
theorem ux_cundo_1 (s : SG)   : UP m_X6_undo 0 (m_ent 2 [.ref 0, .int 1]) [] s (Qb (F_cundo_1 s)) := by
  refine UP.stp 2 (i1 := 2) (L1 := [some (.ref 0), some (.int 1)]) (st1 := [.int 3, .int 1]) (s1 := s) rfl ?_
  refine UP.cI (M1 := m_X6_isBelow) (as := [.int 1, .int 3]) (rest := []) (T := F_isBelow s 1 3) rfl rfl (ux_isBelow s 1 3) ?_
  refine UP.spl (m_cmp .ne (F_isBelow s 1 3) 0) (bif m_cmp .ne (s 111 1) 0 then (let v6 := (s 111 1) - 1; let z7 := F_retell_1 (uset s 111 1 v6) ; (z7 111 1, z7)) else (((-3), s))) (((-2), s)) (by first | (dsimp only [F_cundo_1]; done) | (dsimp only; done) | rfl) (fun cc => ?_) (fun cc => ?_)
  · skip
    refine UP.ifT rfl cc ?_
    refine UP.stp 3 (i1 := 9) (L1 := [some (.ref 0), some (.int 1)]) (st1 := [.int 1, .ref 1]) (s1 := s) rfl ?_
    refine UP.aald (e := 1) (r := 111) rfl rfl (by omega) rfl ?_
    refine UP.stp 1 (i1 := 11) (L1 := [some (.ref 0), some (.int 1)]) (st1 := [.int (s 111 1)]) (s1 := s) rfl ?_
    refine UP.spl (m_cmp .ne (s 111 1) 0) (let v6 := (s 111 1) - 1; let z7 := F_retell_1 (uset s 111 1 v6) ; (z7 111 1, z7)) (((-3), s)) (by first | (dsimp only [F_cundo_1]; done) | (dsimp only; done) | rfl) (fun cc => ?_) (fun cc => ?_)
    · skip
      refine UP.ifT rfl cc ?_
      refine UP.stp 3 (i1 := 17) (L1 := [some (.ref 0), some (.int 1)]) (st1 := [.int 1, .ref 1]) (s1 := s) rfl ?_
      refine UP.aald (e := 1) (r := 111) rfl rfl (by omega) rfl ?_
      refine UP.stp 4 (i1 := 22) (L1 := [some (.ref 0), some (.int 1)]) (st1 := [.int ((s 111 1) - 1), .ref 111]) (s1 := s) rfl ?_
      refine nm (G := fun v6 => UP m_X6_undo 22 [some (.ref 0), some (.int 1)] [.int v6, .ref 111] s (Qb (let v6 := (s 111 1) - 1; let z7 := F_retell_1 (uset s 111 1 v6) ; (z7 111 1, z7)))) ((s 111 1) - 1) (fun v6 e6 => ?_)
      refine UP.stp 3 (i1 := 25) (L1 := [some (.ref 0), some (.int 1)]) (st1 := [.int 1, .ref 0]) (s1 := (uset s 111 1 v6)) rfl ?_
      refine UP.cV (M1 := m_X6_retell) (as := [.ref 0, .int 1]) (rest := []) (T := F_retell_1 (uset s 111 1 v6) ) rfl rfl (ux_retell_1 (uset s 111 1 v6)) (fun z7 e7 => ?_)
      refine UP.stp 3 (i1 := 29) (L1 := [some (.ref 0), some (.int 1)]) (st1 := [.int 1, .ref 1]) (s1 := z7) rfl ?_
      refine UP.aald (e := 1) (r := 111) rfl rfl (by omega) rfl ?_
      refine UP.stp 1 (i1 := 31) (L1 := [some (.ref 0), some (.int 1)]) (st1 := [.int (z7 111 1)]) (s1 := z7) rfl ?_
      exact UP.ret (r := some (.int (z7 111 1))) rfl ⟨by subst e7 e6; first | (dsimp only [F_cundo_1]; done) | (dsimp only; done) | rfl, by subst e7 e6; first | (dsimp only [F_cundo_1]; done) | (dsimp only; done) | rfl⟩
    · skip
      refine UP.ifF rfl cc ?_
      refine UP.stp 1 (i1 := 13) (L1 := [some (.ref 0), some (.int 1)]) (st1 := [.int (-3)]) (s1 := s) rfl ?_
      exact UP.ret (r := some (.int (-3))) rfl ⟨by first | (dsimp only [F_cundo_1]; done) | (dsimp only; done) | rfl, by first | (dsimp only [F_cundo_1]; done) | (dsimp only; done) | rfl⟩
  · skip
    refine UP.ifF rfl cc ?_
    refine UP.stp 1 (i1 := 5) (L1 := [some (.ref 0), some (.int 1)]) (st1 := [.int (-2)]) (s1 := s) rfl ?_
    exact UP.ret (r := some (.int (-2))) rfl ⟨by first | (dsimp only [F_cundo_1]; done) | (dsimp only; done) | rfl, by first | (dsimp only [F_cundo_1]; done) | (dsimp only; done) | rfl⟩
def W_retell_2 : List (Nat × Nat × Option Nat) := [(10, 10, some 0), (11, 14, none), (0, 0, some 12), (0, 0, some 13), (109, 114, none)]
def F_retell_2 (s : SG)  : SG := let z1 := F_takeRudder s ; let z2 := F_mark z1 ; z2
set_option maxRecDepth 20000 in
set_option maxHeartbeats 200000 in
theorem fr_retell_2 (s : SG)   : Fr W_retell_2 s (F_retell_2 s) := by dsimp only [F_retell_2]; exact (let z1 : SG := F_takeRudder s ; (Fr.tr (s1 := z1) (Fr.tr (s1 := s) (Fr.rf _ _) (Fr.wk (W2 := W_retell_2) (fr_takeRudder s ) (by rfl))) (Fr.wk (W2 := W_retell_2) (fr_mark z1 ) (by rfl))))
set_option maxRecDepth 20000 in
set_option maxHeartbeats 200000 in
theorem ux_retell_2 (s : SG)   : UP m_X6_retell 0 (m_ent 2 [.ref 0, .int 2]) [] s (Qv (F_retell_2 s)) := by
  refine UP.stp 10 (i1 := 26) (L1 := [some (.ref 0), some (.int 2)]) (st1 := [.int 2, .ref 1, .ref 10]) (s1 := s) rfl ?_
  refine UP.aald (e := 2) (r := 113) rfl rfl (by omega) rfl ?_
  refine UP.cV (M1 := m_X0_takeRudder) (as := [.ref 10, .ref 113]) (rest := []) (T := F_takeRudder s ) rfl rfl (ux_takeRudder s ) (fun z1 e1 => ?_)
  refine UP.stp 1 (i1 := 29) (L1 := [some (.ref 0), some (.int 2)]) (st1 := [.ref 0]) (s1 := z1) rfl ?_
  refine UP.cV (M1 := m_X6_markChanged) (as := [.ref 0]) (rest := []) (T := F_mark z1 ) rfl rfl (ux_mark z1 ) (fun z2 e2 => ?_)
  exact UP.ret (r := none) rfl ⟨by subst e2 e1; first | (dsimp only [F_retell_2]; done) | (dsimp only; done) | rfl, by subst e2 e1; first | (dsimp only [F_retell_2]; done) | (dsimp only; done) | rfl⟩
end
section
def W_ctype_2 : List (Nat × Nat × Option Nat) := [(10, 10, some 0), (11, 14, none), (0, 0, some 12), (0, 0, some 13), (109, 114, none)]
def F_ctype_2 (s : SG) (b : Int32) : Int32 × SG := bif m_cmp .eq (F_isBelow s 2 3) 0 then (((-2), s)) else (bif m_cmp .ne (F_isBelow s b 256) 0 then (bif m_cmp .lt (s 113 1) 24 then (let v9 := (s 113 1) + 1; let z10 := F_retell_2 (uset (uset s 114 ((s 113 1).toNatClampNeg) b) 113 1 v9) ; (z10 113 1, z10)) else (((-4), s))) else (((-2), s)))
set_option maxRecDepth 20000 in
set_option maxHeartbeats 200000 in
theorem fr_ctype_2 (s : SG) (b : Int32)  : Fr W_ctype_2 s (F_ctype_2 s b).2 := by dsimp only [F_ctype_2]; exact (Fr.bifp (b := m_cmp .eq (F_isBelow s 2 3) 0) (x := ((-2), s)) (y := bif m_cmp .ne (F_isBelow s b 256) 0 then (bif m_cmp .lt (s 113 1) 24 then (let v9 := (s 113 1) + 1; let z10 := F_retell_2 (uset (uset s 114 ((s 113 1).toNatClampNeg) b) 113 1 v9) ; (z10 113 1, z10)) else (((-4), s))) else (((-2), s))) (fun x : Int32 × SG => x.2) (by (try dsimp only); exact (Fr.rf _ _)) (by (try dsimp only); exact (Fr.bifp (b := m_cmp .ne (F_isBelow s b 256) 0) (x := bif m_cmp .lt (s 113 1) 24 then (let v9 := (s 113 1) + 1; let z10 := F_retell_2 (uset (uset s 114 ((s 113 1).toNatClampNeg) b) 113 1 v9) ; (z10 113 1, z10)) else (((-4), s))) (y := ((-2), s)) (fun x : Int32 × SG => x.2) (by (try dsimp only); exact (Fr.bifp (b := m_cmp .lt (s 113 1) 24) (x := let v9 := (s 113 1) + 1; let z10 := F_retell_2 (uset (uset s 114 ((s 113 1).toNatClampNeg) b) 113 1 v9) ; (z10 113 1, z10)) (y := ((-4), s)) (fun x : Int32 × SG => x.2) (by (try dsimp only); exact (let v9 : Int32 := (s 113 1) + 1; (Fr.tr (s1 := (uset (uset s 114 ((s 113 1).toNatClampNeg) b) 113 1 v9)) (Fr.uset (s1 := (uset s 114 ((s 113 1).toNatClampNeg) b)) (a := 113) (j := 1) (x := v9) (by rfl) (Fr.uset (s1 := s) (a := 114) (j := (s 113 1).toNatClampNeg) (x := b) (by rfl) (Fr.rf _ _))) (Fr.wk (W2 := W_ctype_2) (fr_retell_2 (uset (uset s 114 ((s 113 1).toNatClampNeg) b) 113 1 v9) ) (by rfl))))) (by (try dsimp only); exact (Fr.rf _ _)))) (by (try dsimp only); exact (Fr.rf _ _)))))
set_option maxRecDepth 20000 in
set_option maxHeartbeats 200000 in
theorem ux_ctype_2 (s : SG) (b : Int32)  : UP m_X6_type 0 (m_ent 4 [.ref 0, .int 2, .int b]) [] s (Qb (F_ctype_2 s b)) := by
  refine UP.stp 2 (i1 := 2) (L1 := [some (.ref 0), some (.int 2), some (.int b), none]) (st1 := [.int 3, .int 2]) (s1 := s) rfl ?_
  refine UP.cI (M1 := m_X6_isBelow) (as := [.int 2, .int 3]) (rest := []) (T := F_isBelow s 2 3) rfl rfl (ux_isBelow s 2 3) ?_
  refine UP.spl (m_cmp .eq (F_isBelow s 2 3) 0) (((-2), s)) (bif m_cmp .ne (F_isBelow s b 256) 0 then (bif m_cmp .lt (s 113 1) 24 then (let v9 := (s 113 1) + 1; let z10 := F_retell_2 (uset (uset s 114 ((s 113 1).toNatClampNeg) b) 113 1 v9) ; (z10 113 1, z10)) else (((-4), s))) else (((-2), s))) (by first | (dsimp only [F_ctype_2]; done) | (dsimp only; done) | rfl) (fun cc => ?_) (fun cc => ?_)
  · skip
    refine UP.ifT rfl cc ?_
    refine UP.stp 1 (i1 := 9) (L1 := [some (.ref 0), some (.int 2), some (.int b), none]) (st1 := [.int (-2)]) (s1 := s) rfl ?_
    exact UP.ret (r := some (.int (-2))) rfl ⟨by first | (dsimp only [F_ctype_2]; done) | (dsimp only; done) | rfl, by first | (dsimp only [F_ctype_2]; done) | (dsimp only; done) | rfl⟩
  · skip
    refine UP.ifF rfl cc ?_
    refine UP.stp 2 (i1 := 6) (L1 := [some (.ref 0), some (.int 2), some (.int b), none]) (st1 := [.int 256, .int b]) (s1 := s) rfl ?_
    refine UP.cI (M1 := m_X6_isBelow) (as := [.int b, .int 256]) (rest := []) (T := F_isBelow s b 256) rfl rfl (ux_isBelow s b 256) ?_
    refine UP.spl (m_cmp .ne (F_isBelow s b 256) 0) (bif m_cmp .lt (s 113 1) 24 then (let v9 := (s 113 1) + 1; let z10 := F_retell_2 (uset (uset s 114 ((s 113 1).toNatClampNeg) b) 113 1 v9) ; (z10 113 1, z10)) else (((-4), s))) (((-2), s)) (by first | (dsimp only [F_ctype_2]; done) | (dsimp only; done) | rfl) (fun cc => ?_) (fun cc => ?_)
    · skip
      refine UP.ifT rfl cc ?_
      refine UP.stp 3 (i1 := 13) (L1 := [some (.ref 0), some (.int 2), some (.int b), none]) (st1 := [.int 2, .ref 1]) (s1 := s) rfl ?_
      refine UP.aald (e := 2) (r := 113) rfl rfl (by omega) rfl ?_
      refine UP.stp 6 (i1 := 20) (L1 := [some (.ref 0), some (.int 2), some (.int b), some (.ref 113)]) (st1 := [.int 24, .int (s 113 1)]) (s1 := s) rfl ?_
      refine UP.spl (m_cmp .lt (s 113 1) 24) (let v9 := (s 113 1) + 1; let z10 := F_retell_2 (uset (uset s 114 ((s 113 1).toNatClampNeg) b) 113 1 v9) ; (z10 113 1, z10)) (((-4), s)) (by first | (dsimp only [F_ctype_2]; done) | (dsimp only; done) | rfl) (fun cc => ?_) (fun cc => ?_)
      · skip
        refine UP.icT rfl cc ?_
        refine UP.stp 11 (i1 := 34) (L1 := [some (.ref 0), some (.int 2), some (.int b), some (.ref 113)]) (st1 := [.int ((s 113 1) + 1), .ref 113]) (s1 := (uset s 114 ((s 113 1).toNatClampNeg) b)) rfl ?_
        refine nm (G := fun v9 => UP m_X6_type 34 [some (.ref 0), some (.int 2), some (.int b), some (.ref 113)] [.int v9, .ref 113] (uset s 114 ((s 113 1).toNatClampNeg) b) (Qb (let v9 := (s 113 1) + 1; let z10 := F_retell_2 (uset (uset s 114 ((s 113 1).toNatClampNeg) b) 113 1 v9) ; (z10 113 1, z10)))) ((s 113 1) + 1) (fun v9 e9 => ?_)
        refine UP.stp 3 (i1 := 37) (L1 := [some (.ref 0), some (.int 2), some (.int b), some (.ref 113)]) (st1 := [.int 2, .ref 0]) (s1 := (uset (uset s 114 ((s 113 1).toNatClampNeg) b) 113 1 v9)) rfl ?_
        refine UP.cV (M1 := m_X6_retell) (as := [.ref 0, .int 2]) (rest := []) (T := F_retell_2 (uset (uset s 114 ((s 113 1).toNatClampNeg) b) 113 1 v9) ) rfl rfl (ux_retell_2 (uset (uset s 114 ((s 113 1).toNatClampNeg) b) 113 1 v9)) (fun z10 e10 => ?_)
        refine UP.stp 2 (i1 := 40) (L1 := [some (.ref 0), some (.int 2), some (.int b), some (.ref 113)]) (st1 := [.int (z10 113 1)]) (s1 := z10) rfl ?_
        exact UP.ret (r := some (.int (z10 113 1))) rfl ⟨by subst e10 e9; first | (dsimp only [F_ctype_2]; done) | (dsimp only; done) | rfl, by subst e10 e9; first | (dsimp only [F_ctype_2]; done) | (dsimp only; done) | rfl⟩
      · skip
        refine UP.icF rfl cc ?_
        refine UP.stp 1 (i1 := 22) (L1 := [some (.ref 0), some (.int 2), some (.int b), some (.ref 113)]) (st1 := [.int (-4)]) (s1 := s) rfl ?_
        exact UP.ret (r := some (.int (-4))) rfl ⟨by first | (dsimp only [F_ctype_2]; done) | (dsimp only; done) | rfl, by first | (dsimp only [F_ctype_2]; done) | (dsimp only; done) | rfl⟩
    · skip
      refine UP.ifF rfl cc ?_
      refine UP.stp 1 (i1 := 9) (L1 := [some (.ref 0), some (.int 2), some (.int b), none]) (st1 := [.int (-2)]) (s1 := s) rfl ?_
      exact UP.ret (r := some (.int (-2))) rfl ⟨by first | (dsimp only [F_ctype_2]; done) | (dsimp only; done) | rfl, by first | (dsimp only [F_ctype_2]; done) | (dsimp only; done) | rfl⟩
def W_cwipe_2 : List (Nat × Nat × Option Nat) := [(10, 10, some 0), (11, 14, none), (0, 0, some 12), (0, 0, some 13), (109, 114, none)]
def F_cwipe_2 (s : SG)  : Int32 × SG := bif m_cmp .ne (F_isBelow s 2 3) 0 then (let v4 := s 113 1; let z5 := F_retell_2 (uset s 113 1 0) ; (v4, z5)) else (((-2), s))
set_option maxRecDepth 20000 in
set_option maxHeartbeats 200000 in
theorem fr_cwipe_2 (s : SG)   : Fr W_cwipe_2 s (F_cwipe_2 s).2 := by dsimp only [F_cwipe_2]; exact (Fr.bifp (b := m_cmp .ne (F_isBelow s 2 3) 0) (x := let v4 := s 113 1; let z5 := F_retell_2 (uset s 113 1 0) ; (v4, z5)) (y := ((-2), s)) (fun x : Int32 × SG => x.2) (by (try dsimp only); exact (Fr.tr (s1 := (uset s 113 1 0)) (Fr.uset (s1 := s) (a := 113) (j := 1) (x := 0) (by rfl) (Fr.rf _ _)) (Fr.wk (W2 := W_cwipe_2) (fr_retell_2 (uset s 113 1 0) ) (by rfl)))) (by (try dsimp only); exact (Fr.rf _ _)))
set_option maxRecDepth 20000 in
set_option maxHeartbeats 200000 in
theorem ux_cwipe_2 (s : SG)   : UP m_X6_wipe 0 (m_ent 3 [.ref 0, .int 2]) [] s (Qb (F_cwipe_2 s)) := by
  refine UP.stp 2 (i1 := 2) (L1 := [some (.ref 0), some (.int 2), none]) (st1 := [.int 3, .int 2]) (s1 := s) rfl ?_
  refine UP.cI (M1 := m_X6_isBelow) (as := [.int 2, .int 3]) (rest := []) (T := F_isBelow s 2 3) rfl rfl (ux_isBelow s 2 3) ?_
  refine UP.spl (m_cmp .ne (F_isBelow s 2 3) 0) (let v4 := s 113 1; let z5 := F_retell_2 (uset s 113 1 0) ; (v4, z5)) (((-2), s)) (by first | (dsimp only [F_cwipe_2]; done) | (dsimp only; done) | rfl) (fun cc => ?_) (fun cc => ?_)
  · skip
    refine UP.ifT rfl cc ?_
    refine UP.stp 3 (i1 := 9) (L1 := [some (.ref 0), some (.int 2), none]) (st1 := [.int 2, .ref 1]) (s1 := s) rfl ?_
    refine UP.aald (e := 2) (r := 113) rfl rfl (by omega) rfl ?_
    refine UP.stp 1 (i1 := 11) (L1 := [some (.ref 0), some (.int 2), none]) (st1 := [.int (s 113 1)]) (s1 := s) rfl ?_
    refine nm (G := fun v4 => UP m_X6_wipe 11 [some (.ref 0), some (.int 2), none] [.int v4] s (Qb (let v4 := s 113 1; let z5 := F_retell_2 (uset s 113 1 0) ; (v4, z5)))) (s 113 1) (fun v4 e4 => ?_)
    refine UP.stp 4 (i1 := 15) (L1 := [some (.ref 0), some (.int 2), some (.int v4)]) (st1 := [.int 2, .ref 1]) (s1 := s) rfl ?_
    refine UP.aald (e := 2) (r := 113) rfl rfl (by omega) rfl ?_
    refine UP.stp 4 (i1 := 20) (L1 := [some (.ref 0), some (.int 2), some (.int v4)]) (st1 := [.int 2, .ref 0]) (s1 := (uset s 113 1 0)) rfl ?_
    refine UP.cV (M1 := m_X6_retell) (as := [.ref 0, .int 2]) (rest := []) (T := F_retell_2 (uset s 113 1 0) ) rfl rfl (ux_retell_2 (uset s 113 1 0)) (fun z5 e5 => ?_)
    refine UP.stp 1 (i1 := 22) (L1 := [some (.ref 0), some (.int 2), some (.int v4)]) (st1 := [.int v4]) (s1 := z5) rfl ?_
    exact UP.ret (r := some (.int v4)) rfl ⟨by subst e5 e4; first | (dsimp only [F_cwipe_2]; done) | (dsimp only; done) | rfl, by subst e5 e4; first | (dsimp only [F_cwipe_2]; done) | (dsimp only; done) | rfl⟩
  · skip
    refine UP.ifF rfl cc ?_
    refine UP.stp 1 (i1 := 5) (L1 := [some (.ref 0), some (.int 2), none]) (st1 := [.int (-2)]) (s1 := s) rfl ?_
    exact UP.ret (r := some (.int (-2))) rfl ⟨by first | (dsimp only [F_cwipe_2]; done) | (dsimp only; done) | rfl, by first | (dsimp only [F_cwipe_2]; done) | (dsimp only; done) | rfl⟩
end
section
def W_cundo_2 : List (Nat × Nat × Option Nat) := [(10, 10, some 0), (11, 14, none), (0, 0, some 12), (0, 0, some 13), (109, 114, none)]
def F_cundo_2 (s : SG)  : Int32 × SG := bif m_cmp .ne (F_isBelow s 2 3) 0 then (bif m_cmp .ne (s 113 1) 0 then (let v6 := (s 113 1) - 1; let z7 := F_retell_2 (uset s 113 1 v6) ; (z7 113 1, z7)) else (((-3), s))) else (((-2), s))
set_option maxRecDepth 20000 in
set_option maxHeartbeats 200000 in
theorem fr_cundo_2 (s : SG)   : Fr W_cundo_2 s (F_cundo_2 s).2 := by dsimp only [F_cundo_2]; exact (Fr.bifp (b := m_cmp .ne (F_isBelow s 2 3) 0) (x := bif m_cmp .ne (s 113 1) 0 then (let v6 := (s 113 1) - 1; let z7 := F_retell_2 (uset s 113 1 v6) ; (z7 113 1, z7)) else (((-3), s))) (y := ((-2), s)) (fun x : Int32 × SG => x.2) (by (try dsimp only); exact (Fr.bifp (b := m_cmp .ne (s 113 1) 0) (x := let v6 := (s 113 1) - 1; let z7 := F_retell_2 (uset s 113 1 v6) ; (z7 113 1, z7)) (y := ((-3), s)) (fun x : Int32 × SG => x.2) (by (try dsimp only); exact (let v6 : Int32 := (s 113 1) - 1; (Fr.tr (s1 := (uset s 113 1 v6)) (Fr.uset (s1 := s) (a := 113) (j := 1) (x := v6) (by rfl) (Fr.rf _ _)) (Fr.wk (W2 := W_cundo_2) (fr_retell_2 (uset s 113 1 v6) ) (by rfl))))) (by (try dsimp only); exact (Fr.rf _ _)))) (by (try dsimp only); exact (Fr.rf _ _)))
set_option maxRecDepth 20000 in
set_option maxHeartbeats 200000 in
theorem ux_cundo_2 (s : SG)   : UP m_X6_undo 0 (m_ent 2 [.ref 0, .int 2]) [] s (Qb (F_cundo_2 s)) := by
  refine UP.stp 2 (i1 := 2) (L1 := [some (.ref 0), some (.int 2)]) (st1 := [.int 3, .int 2]) (s1 := s) rfl ?_
  refine UP.cI (M1 := m_X6_isBelow) (as := [.int 2, .int 3]) (rest := []) (T := F_isBelow s 2 3) rfl rfl (ux_isBelow s 2 3) ?_
  refine UP.spl (m_cmp .ne (F_isBelow s 2 3) 0) (bif m_cmp .ne (s 113 1) 0 then (let v6 := (s 113 1) - 1; let z7 := F_retell_2 (uset s 113 1 v6) ; (z7 113 1, z7)) else (((-3), s))) (((-2), s)) (by first | (dsimp only [F_cundo_2]; done) | (dsimp only; done) | rfl) (fun cc => ?_) (fun cc => ?_)
  · skip
    refine UP.ifT rfl cc ?_
    refine UP.stp 3 (i1 := 9) (L1 := [some (.ref 0), some (.int 2)]) (st1 := [.int 2, .ref 1]) (s1 := s) rfl ?_
    refine UP.aald (e := 2) (r := 113) rfl rfl (by omega) rfl ?_
    refine UP.stp 1 (i1 := 11) (L1 := [some (.ref 0), some (.int 2)]) (st1 := [.int (s 113 1)]) (s1 := s) rfl ?_
    refine UP.spl (m_cmp .ne (s 113 1) 0) (let v6 := (s 113 1) - 1; let z7 := F_retell_2 (uset s 113 1 v6) ; (z7 113 1, z7)) (((-3), s)) (by first | (dsimp only [F_cundo_2]; done) | (dsimp only; done) | rfl) (fun cc => ?_) (fun cc => ?_)
    · skip
      refine UP.ifT rfl cc ?_
      refine UP.stp 3 (i1 := 17) (L1 := [some (.ref 0), some (.int 2)]) (st1 := [.int 2, .ref 1]) (s1 := s) rfl ?_
      refine UP.aald (e := 2) (r := 113) rfl rfl (by omega) rfl ?_
      refine UP.stp 4 (i1 := 22) (L1 := [some (.ref 0), some (.int 2)]) (st1 := [.int ((s 113 1) - 1), .ref 113]) (s1 := s) rfl ?_
      refine nm (G := fun v6 => UP m_X6_undo 22 [some (.ref 0), some (.int 2)] [.int v6, .ref 113] s (Qb (let v6 := (s 113 1) - 1; let z7 := F_retell_2 (uset s 113 1 v6) ; (z7 113 1, z7)))) ((s 113 1) - 1) (fun v6 e6 => ?_)
      refine UP.stp 3 (i1 := 25) (L1 := [some (.ref 0), some (.int 2)]) (st1 := [.int 2, .ref 0]) (s1 := (uset s 113 1 v6)) rfl ?_
      refine UP.cV (M1 := m_X6_retell) (as := [.ref 0, .int 2]) (rest := []) (T := F_retell_2 (uset s 113 1 v6) ) rfl rfl (ux_retell_2 (uset s 113 1 v6)) (fun z7 e7 => ?_)
      refine UP.stp 3 (i1 := 29) (L1 := [some (.ref 0), some (.int 2)]) (st1 := [.int 2, .ref 1]) (s1 := z7) rfl ?_
      refine UP.aald (e := 2) (r := 113) rfl rfl (by omega) rfl ?_
      refine UP.stp 1 (i1 := 31) (L1 := [some (.ref 0), some (.int 2)]) (st1 := [.int (z7 113 1)]) (s1 := z7) rfl ?_
      exact UP.ret (r := some (.int (z7 113 1))) rfl ⟨by subst e7 e6; first | (dsimp only [F_cundo_2]; done) | (dsimp only; done) | rfl, by subst e7 e6; first | (dsimp only [F_cundo_2]; done) | (dsimp only; done) | rfl⟩
    · skip
      refine UP.ifF rfl cc ?_
      refine UP.stp 1 (i1 := 13) (L1 := [some (.ref 0), some (.int 2)]) (st1 := [.int (-3)]) (s1 := s) rfl ?_
      exact UP.ret (r := some (.int (-3))) rfl ⟨by first | (dsimp only [F_cundo_2]; done) | (dsimp only; done) | rfl, by first | (dsimp only [F_cundo_2]; done) | (dsimp only; done) | rfl⟩
  · skip
    refine UP.ifF rfl cc ?_
    refine UP.stp 1 (i1 := 5) (L1 := [some (.ref 0), some (.int 2)]) (st1 := [.int (-2)]) (s1 := s) rfl ?_
    exact UP.ret (r := some (.int (-2))) rfl ⟨by first | (dsimp only [F_cundo_2]; done) | (dsimp only; done) | rfl, by first | (dsimp only [F_cundo_2]; done) | (dsimp only; done) | rfl⟩
def W_cfault_0 : List (Nat × Nat × Option Nat) := []
def F_cfault_0 (s : SG)  : Int32 := bif m_cmp .ne (F_isBelow s 0 3) 0 then (F_crewFault s) else ((-2))
set_option maxRecDepth 20000 in
set_option maxHeartbeats 200000 in
theorem ux_cfault_0 (s : SG)   : UP m_X6_fault 0 (m_ent 2 [.ref 0, .int 0]) [] s (Qi s (F_cfault_0 s)) := by
  refine UP.stp 2 (i1 := 2) (L1 := [some (.ref 0), some (.int 0)]) (st1 := [.int 3, .int 0]) (s1 := s) rfl ?_
  refine UP.cI (M1 := m_X6_isBelow) (as := [.int 0, .int 3]) (rest := []) (T := F_isBelow s 0 3) rfl rfl (ux_isBelow s 0 3) ?_
  refine UP.spl (m_cmp .ne (F_isBelow s 0 3) 0) (F_crewFault s) ((-2)) (by first | (dsimp only [F_cfault_0]; done) | (dsimp only; done) | rfl) (fun cc => ?_) (fun cc => ?_)
  · skip
    refine UP.ifT rfl cc ?_
    refine UP.stp 5 (i1 := 11) (L1 := [some (.ref 0), some (.int 0)]) (st1 := [.int 0, .ref 1]) (s1 := s) rfl ?_
    refine UP.aald (e := 0) (r := 109) rfl rfl (by omega) rfl ?_
    refine UP.cI (M1 := m_X4_crewFault) (as := [.ref 109]) (rest := []) (T := F_crewFault s ) rfl rfl (ux_crewFault s ) ?_
    refine UP.stp 1 (i1 := 25) (L1 := [some (.ref 0), some (.int 0)]) (st1 := [.int (F_crewFault s)]) (s1 := s) rfl ?_
    exact UP.ret (r := some (.int (F_crewFault s))) rfl ⟨by first | (dsimp only [F_cfault_0]; done) | (dsimp only; done) | rfl, by first | (dsimp only [F_cfault_0]; done) | (dsimp only; done) | rfl⟩
  · skip
    refine UP.ifF rfl cc ?_
    refine UP.stp 1 (i1 := 5) (L1 := [some (.ref 0), some (.int 0)]) (st1 := [.int (-2)]) (s1 := s) rfl ?_
    exact UP.ret (r := some (.int (-2))) rfl ⟨by first | (dsimp only [F_cfault_0]; done) | (dsimp only; done) | rfl, by first | (dsimp only [F_cfault_0]; done) | (dsimp only; done) | rfl⟩
def W_cfault_1 : List (Nat × Nat × Option Nat) := []
def F_cfault_1 (s : SG)  : Int32 := bif m_cmp .ne (F_isBelow s 1 3) 0 then (F_signFault_1 s) else ((-2))
set_option maxRecDepth 20000 in
set_option maxHeartbeats 200000 in
theorem ux_cfault_1 (s : SG)   : UP m_X6_fault 0 (m_ent 2 [.ref 0, .int 1]) [] s (Qi s (F_cfault_1 s)) := by
  refine UP.stp 2 (i1 := 2) (L1 := [some (.ref 0), some (.int 1)]) (st1 := [.int 3, .int 1]) (s1 := s) rfl ?_
  refine UP.cI (M1 := m_X6_isBelow) (as := [.int 1, .int 3]) (rest := []) (T := F_isBelow s 1 3) rfl rfl (ux_isBelow s 1 3) ?_
  refine UP.spl (m_cmp .ne (F_isBelow s 1 3) 0) (F_signFault_1 s) ((-2)) (by first | (dsimp only [F_cfault_1]; done) | (dsimp only; done) | rfl) (fun cc => ?_) (fun cc => ?_)
  · skip
    refine UP.ifT rfl cc ?_
    refine UP.stp 5 (i1 := 17) (L1 := [some (.ref 0), some (.int 1)]) (st1 := [.int 1, .ref 1]) (s1 := s) rfl ?_
    refine UP.aald (e := 1) (r := 111) rfl rfl (by omega) rfl ?_
    refine UP.stp 5 (i1 := 24) (L1 := [some (.ref 0), some (.int 1)]) (st1 := [.int 1, .ref 111]) (s1 := s) rfl ?_
    refine UP.cI (M1 := m_X4_signFault) (as := [.ref 111, .int 1]) (rest := []) (T := F_signFault_1 s ) rfl rfl (ux_signFault_1 s) ?_
    exact UP.ret (r := some (.int (F_signFault_1 s))) rfl ⟨by first | (dsimp only [F_cfault_1]; done) | (dsimp only; done) | rfl, by first | (dsimp only [F_cfault_1]; done) | (dsimp only; done) | rfl⟩
  · skip
    refine UP.ifF rfl cc ?_
    refine UP.stp 1 (i1 := 5) (L1 := [some (.ref 0), some (.int 1)]) (st1 := [.int (-2)]) (s1 := s) rfl ?_
    exact UP.ret (r := some (.int (-2))) rfl ⟨by first | (dsimp only [F_cfault_1]; done) | (dsimp only; done) | rfl, by first | (dsimp only [F_cfault_1]; done) | (dsimp only; done) | rfl⟩
def W_cfault_2 : List (Nat × Nat × Option Nat) := []
def F_cfault_2 (s : SG)  : Int32 := bif m_cmp .ne (F_isBelow s 2 3) 0 then (F_signFault_2 s) else ((-2))
set_option maxRecDepth 20000 in
set_option maxHeartbeats 200000 in
theorem ux_cfault_2 (s : SG)   : UP m_X6_fault 0 (m_ent 2 [.ref 0, .int 2]) [] s (Qi s (F_cfault_2 s)) := by
  refine UP.stp 2 (i1 := 2) (L1 := [some (.ref 0), some (.int 2)]) (st1 := [.int 3, .int 2]) (s1 := s) rfl ?_
  refine UP.cI (M1 := m_X6_isBelow) (as := [.int 2, .int 3]) (rest := []) (T := F_isBelow s 2 3) rfl rfl (ux_isBelow s 2 3) ?_
  refine UP.spl (m_cmp .ne (F_isBelow s 2 3) 0) (F_signFault_2 s) ((-2)) (by first | (dsimp only [F_cfault_2]; done) | (dsimp only; done) | rfl) (fun cc => ?_) (fun cc => ?_)
  · skip
    refine UP.ifT rfl cc ?_
    refine UP.stp 5 (i1 := 17) (L1 := [some (.ref 0), some (.int 2)]) (st1 := [.int 2, .ref 1]) (s1 := s) rfl ?_
    refine UP.aald (e := 2) (r := 113) rfl rfl (by omega) rfl ?_
    refine UP.stp 4 (i1 := 24) (L1 := [some (.ref 0), some (.int 2)]) (st1 := [.int 0, .ref 113]) (s1 := s) rfl ?_
    refine UP.cI (M1 := m_X4_signFault) (as := [.ref 113, .int 0]) (rest := []) (T := F_signFault_2 s ) rfl rfl (ux_signFault_2 s) ?_
    exact UP.ret (r := some (.int (F_signFault_2 s))) rfl ⟨by first | (dsimp only [F_cfault_2]; done) | (dsimp only; done) | rfl, by first | (dsimp only [F_cfault_2]; done) | (dsimp only; done) | rfl⟩
  · skip
    refine UP.ifF rfl cc ?_
    refine UP.stp 1 (i1 := 5) (L1 := [some (.ref 0), some (.int 2)]) (st1 := [.int (-2)]) (s1 := s) rfl ?_
    exact UP.ret (r := some (.int (-2))) rfl ⟨by first | (dsimp only [F_cfault_2]; done) | (dsimp only; done) | rfl, by first | (dsimp only [F_cfault_2]; done) | (dsimp only; done) | rfl⟩
end
section
def W_crower : List (Nat × Nat × Option Nat) := []
def F_crower (s : SG) (seat : Int32) (what : Int32) : Int32 := bif m_cmp .eq (F_cisRower s seat) 0 then ((-2)) else (bif m_cmp .ne (F_isBelow s what 2) 0 then (let v7 := bif m_cmp .ne what 0 then s 12 seat.toNatClampNeg else s 11 seat.toNatClampNeg; v7) else ((-2)))
set_option maxRecDepth 20000 in
set_option maxHeartbeats 200000 in
theorem ux_crower (s : SG) (seat : Int32) (what : Int32)  : UP m_X6_rower 0 (m_ent 3 [.ref 0, .int seat, .int what]) [] s (Qi s (F_crower s seat what)) := by
  refine UP.stp 2 (i1 := 2) (L1 := [some (.ref 0), some (.int seat), some (.int what)]) (st1 := [.int seat, .ref 0]) (s1 := s) rfl ?_
  refine UP.cI (M1 := m_X6_isRower) (as := [.ref 0, .int seat]) (rest := []) (T := F_cisRower s seat) rfl rfl (ux_cisRower s seat) ?_
  refine UP.spl (m_cmp .eq (F_cisRower s seat) 0) ((-2)) (bif m_cmp .ne (F_isBelow s what 2) 0 then (let v7 := bif m_cmp .ne what 0 then s 12 seat.toNatClampNeg else s 11 seat.toNatClampNeg; v7) else ((-2))) (by first | (dsimp only [F_crower]; done) | (dsimp only; done) | rfl) (fun cc => ?_) (fun cc => ?_)
  · skip
    refine UP.ifT rfl cc ?_
    refine UP.stp 1 (i1 := 9) (L1 := [some (.ref 0), some (.int seat), some (.int what)]) (st1 := [.int (-2)]) (s1 := s) rfl ?_
    exact UP.ret (r := some (.int (-2))) rfl ⟨by first | (dsimp only [F_crower]; done) | (dsimp only; done) | rfl, by first | (dsimp only [F_crower]; done) | (dsimp only; done) | rfl⟩
  · skip
    refine UP.ifF rfl cc ?_
    refine UP.stp 2 (i1 := 6) (L1 := [some (.ref 0), some (.int seat), some (.int what)]) (st1 := [.int 2, .int what]) (s1 := s) rfl ?_
    refine UP.cI (M1 := m_X6_isBelow) (as := [.int what, .int 2]) (rest := []) (T := F_isBelow s what 2) rfl rfl (ux_isBelow s what 2) ?_
    refine UP.spl (m_cmp .ne (F_isBelow s what 2) 0) (let v7 := bif m_cmp .ne what 0 then s 12 seat.toNatClampNeg else s 11 seat.toNatClampNeg; v7) ((-2)) (by first | (dsimp only [F_crower]; done) | (dsimp only; done) | rfl) (fun cc => ?_) (fun cc => ?_)
    · skip
      refine UP.ifT rfl cc ?_
      refine UP.stp 1 (i1 := 11) (L1 := [some (.ref 0), some (.int seat), some (.int what)]) (st1 := [.int what]) (s1 := s) rfl ?_
      refine mrg (m_cmp .ne what 0) (s 12 seat.toNatClampNeg) (s 11 seat.toNatClampNeg) (fun v7 : Int32 => UP m_X6_rower 23 [some (.ref 0), some (.int seat), some (.int what)] [.int v7] s (Qi s (let v7 := bif m_cmp .ne what 0 then s 12 seat.toNatClampNeg else s 11 seat.toNatClampNeg; v7))) (fun cc kk => ?_) (fun cc kk => ?_) (fun v7 e7 => ?_)
      · skip
        refine UP.ifT rfl cc ?_
        refine UP.stp 5 (i1 := 23) (L1 := [some (.ref 0), some (.int seat), some (.int what)]) (st1 := [.int (s 12 seat.toNatClampNeg)]) (s1 := s) rfl ?_
        exact kk
      · skip
        refine UP.ifF rfl cc ?_
        refine UP.stp 6 (i1 := 23) (L1 := [some (.ref 0), some (.int seat), some (.int what)]) (st1 := [.int (s 11 seat.toNatClampNeg)]) (s1 := s) rfl ?_
        exact kk
      exact UP.ret (r := some (.int v7)) rfl ⟨by subst e7; first | (dsimp only [F_crower]; done) | (dsimp only; done) | rfl, by subst e7; first | (dsimp only [F_crower]; done) | (dsimp only; done) | rfl⟩
    · skip
      refine UP.ifF rfl cc ?_
      refine UP.stp 1 (i1 := 9) (L1 := [some (.ref 0), some (.int seat), some (.int what)]) (st1 := [.int (-2)]) (s1 := s) rfl ?_
      exact UP.ret (r := some (.int (-2))) rfl ⟨by first | (dsimp only [F_crower]; done) | (dsimp only; done) | rfl, by first | (dsimp only [F_crower]; done) | (dsimp only; done) | rfl⟩
def W_ccall : List (Nat × Nat × Option Nat) := []
def F_ccall (s : SG) (minute : Int32) (what : Int32) : Int32 := bif m_cmp .eq (F_isBelow s minute 24) 0 then ((-2)) else (bif m_cmp .ne (F_isBelow s what 2) 0 then (let v7 := bif m_cmp .ne what 0 then s 14 minute.toNatClampNeg else s 13 minute.toNatClampNeg; v7) else ((-2)))
set_option maxRecDepth 20000 in
set_option maxHeartbeats 200000 in
theorem ux_ccall (s : SG) (minute : Int32) (what : Int32)  : UP m_X6_call 0 (m_ent 3 [.ref 0, .int minute, .int what]) [] s (Qi s (F_ccall s minute what)) := by
  refine UP.stp 2 (i1 := 2) (L1 := [some (.ref 0), some (.int minute), some (.int what)]) (st1 := [.int 24, .int minute]) (s1 := s) rfl ?_
  refine UP.cI (M1 := m_X6_isBelow) (as := [.int minute, .int 24]) (rest := []) (T := F_isBelow s minute 24) rfl rfl (ux_isBelow s minute 24) ?_
  refine UP.spl (m_cmp .eq (F_isBelow s minute 24) 0) ((-2)) (bif m_cmp .ne (F_isBelow s what 2) 0 then (let v7 := bif m_cmp .ne what 0 then s 14 minute.toNatClampNeg else s 13 minute.toNatClampNeg; v7) else ((-2))) (by first | (dsimp only [F_ccall]; done) | (dsimp only; done) | rfl) (fun cc => ?_) (fun cc => ?_)
  · skip
    refine UP.ifT rfl cc ?_
    refine UP.stp 1 (i1 := 9) (L1 := [some (.ref 0), some (.int minute), some (.int what)]) (st1 := [.int (-2)]) (s1 := s) rfl ?_
    exact UP.ret (r := some (.int (-2))) rfl ⟨by first | (dsimp only [F_ccall]; done) | (dsimp only; done) | rfl, by first | (dsimp only [F_ccall]; done) | (dsimp only; done) | rfl⟩
  · skip
    refine UP.ifF rfl cc ?_
    refine UP.stp 2 (i1 := 6) (L1 := [some (.ref 0), some (.int minute), some (.int what)]) (st1 := [.int 2, .int what]) (s1 := s) rfl ?_
    refine UP.cI (M1 := m_X6_isBelow) (as := [.int what, .int 2]) (rest := []) (T := F_isBelow s what 2) rfl rfl (ux_isBelow s what 2) ?_
    refine UP.spl (m_cmp .ne (F_isBelow s what 2) 0) (let v7 := bif m_cmp .ne what 0 then s 14 minute.toNatClampNeg else s 13 minute.toNatClampNeg; v7) ((-2)) (by first | (dsimp only [F_ccall]; done) | (dsimp only; done) | rfl) (fun cc => ?_) (fun cc => ?_)
    · skip
      refine UP.ifT rfl cc ?_
      refine UP.stp 1 (i1 := 11) (L1 := [some (.ref 0), some (.int minute), some (.int what)]) (st1 := [.int what]) (s1 := s) rfl ?_
      refine mrg (m_cmp .ne what 0) (s 14 minute.toNatClampNeg) (s 13 minute.toNatClampNeg) (fun v7 : Int32 => UP m_X6_call 23 [some (.ref 0), some (.int minute), some (.int what)] [.int v7] s (Qi s (let v7 := bif m_cmp .ne what 0 then s 14 minute.toNatClampNeg else s 13 minute.toNatClampNeg; v7))) (fun cc kk => ?_) (fun cc kk => ?_) (fun v7 e7 => ?_)
      · skip
        refine UP.ifT rfl cc ?_
        refine UP.stp 5 (i1 := 23) (L1 := [some (.ref 0), some (.int minute), some (.int what)]) (st1 := [.int (s 14 minute.toNatClampNeg)]) (s1 := s) rfl ?_
        exact kk
      · skip
        refine UP.ifF rfl cc ?_
        refine UP.stp 6 (i1 := 23) (L1 := [some (.ref 0), some (.int minute), some (.int what)]) (st1 := [.int (s 13 minute.toNatClampNeg)]) (s1 := s) rfl ?_
        exact kk
      exact UP.ret (r := some (.int v7)) rfl ⟨by subst e7; first | (dsimp only [F_ccall]; done) | (dsimp only; done) | rfl, by subst e7; first | (dsimp only [F_ccall]; done) | (dsimp only; done) | rfl⟩
    · skip
      refine UP.ifF rfl cc ?_
      refine UP.stp 1 (i1 := 9) (L1 := [some (.ref 0), some (.int minute), some (.int what)]) (st1 := [.int (-2)]) (s1 := s) rfl ?_
      exact UP.ret (r := some (.int (-2))) rfl ⟨by first | (dsimp only [F_ccall]; done) | (dsimp only; done) | rfl, by first | (dsimp only [F_ccall]; done) | (dsimp only; done) | rfl⟩
def W_tellStream : List (Nat × Nat × Option Nat) := [(0, 0, some 12), (0, 0, some 13), (10, 10, some 5)]
def F_tellStream (s : SG) (v : Int32) : Int32 × SG := bif m_cmp .ne (F_isBelow s v 10) 0 then (let v4 := s 10 5; let z5 := F_mark (uset s 10 5 v) ; (v4, z5)) else (((-2), s))
set_option maxRecDepth 20000 in
set_option maxHeartbeats 200000 in
theorem fr_tellStream (s : SG) (v : Int32)  : Fr W_tellStream s (F_tellStream s v).2 := by dsimp only [F_tellStream]; exact (Fr.bifp (b := m_cmp .ne (F_isBelow s v 10) 0) (x := let v4 := s 10 5; let z5 := F_mark (uset s 10 5 v) ; (v4, z5)) (y := ((-2), s)) (fun x : Int32 × SG => x.2) (by (try dsimp only); exact (Fr.tr (s1 := (uset s 10 5 v)) (Fr.uset (s1 := s) (a := 10) (j := 5) (x := v) (by rfl) (Fr.rf _ _)) (Fr.wk (W2 := W_tellStream) (fr_mark (uset s 10 5 v) ) (by rfl)))) (by (try dsimp only); exact (Fr.rf _ _)))
set_option maxRecDepth 20000 in
set_option maxHeartbeats 200000 in
theorem ux_tellStream (s : SG) (v : Int32)  : UP m_X6_tellStream 0 (m_ent 3 [.ref 0, .int v]) [] s (Qb (F_tellStream s v)) := by
  refine UP.stp 2 (i1 := 2) (L1 := [some (.ref 0), some (.int v), none]) (st1 := [.int 10, .int v]) (s1 := s) rfl ?_
  refine UP.cI (M1 := m_X6_isBelow) (as := [.int v, .int 10]) (rest := []) (T := F_isBelow s v 10) rfl rfl (ux_isBelow s v 10) ?_
  refine UP.spl (m_cmp .ne (F_isBelow s v 10) 0) (let v4 := s 10 5; let z5 := F_mark (uset s 10 5 v) ; (v4, z5)) (((-2), s)) (by first | (dsimp only [F_tellStream]; done) | (dsimp only; done) | rfl) (fun cc => ?_) (fun cc => ?_)
  · skip
    refine UP.ifT rfl cc ?_
    refine UP.stp 3 (i1 := 9) (L1 := [some (.ref 0), some (.int v), none]) (st1 := [.int (s 10 5)]) (s1 := s) rfl ?_
    refine nm (G := fun v4 => UP m_X6_tellStream 9 [some (.ref 0), some (.int v), none] [.int v4] s (Qb (let v4 := s 10 5; let z5 := F_mark (uset s 10 5 v) ; (v4, z5)))) (s 10 5) (fun v4 e4 => ?_)
    refine UP.stp 6 (i1 := 15) (L1 := [some (.ref 0), some (.int v), some (.int v4)]) (st1 := [.ref 0]) (s1 := (uset s 10 5 v)) rfl ?_
    refine UP.cV (M1 := m_X6_markChanged) (as := [.ref 0]) (rest := []) (T := F_mark (uset s 10 5 v) ) rfl rfl (ux_mark (uset s 10 5 v) ) (fun z5 e5 => ?_)
    refine UP.stp 1 (i1 := 17) (L1 := [some (.ref 0), some (.int v), some (.int v4)]) (st1 := [.int v4]) (s1 := z5) rfl ?_
    exact UP.ret (r := some (.int v4)) rfl ⟨by subst e5 e4; first | (dsimp only [F_tellStream]; done) | (dsimp only; done) | rfl, by subst e5 e4; first | (dsimp only [F_tellStream]; done) | (dsimp only; done) | rfl⟩
  · skip
    refine UP.ifF rfl cc ?_
    refine UP.stp 1 (i1 := 5) (L1 := [some (.ref 0), some (.int v), none]) (st1 := [.int (-2)]) (s1 := s) rfl ?_
    exact UP.ret (r := some (.int (-2))) rfl ⟨by first | (dsimp only [F_tellStream]; done) | (dsimp only; done) | rfl, by first | (dsimp only [F_tellStream]; done) | (dsimp only; done) | rfl⟩
end
section
def W_tellHome : List (Nat × Nat × Option Nat) := [(0, 0, some 12), (0, 0, some 13), (10, 10, some 6)]
def F_tellHome (s : SG) (v : Int32) : Int32 × SG := bif m_cmp .lt v 50 then (((-2), s)) else (bif m_cmp .le v 999 then (let v5 := s 10 6; let z6 := F_mark (uset s 10 6 v) ; (v5, z6)) else (((-2), s)))
set_option maxRecDepth 20000 in
set_option maxHeartbeats 200000 in
theorem fr_tellHome (s : SG) (v : Int32)  : Fr W_tellHome s (F_tellHome s v).2 := by dsimp only [F_tellHome]; exact (Fr.bifp (b := m_cmp .lt v 50) (x := ((-2), s)) (y := bif m_cmp .le v 999 then (let v5 := s 10 6; let z6 := F_mark (uset s 10 6 v) ; (v5, z6)) else (((-2), s))) (fun x : Int32 × SG => x.2) (by (try dsimp only); exact (Fr.rf _ _)) (by (try dsimp only); exact (Fr.bifp (b := m_cmp .le v 999) (x := let v5 := s 10 6; let z6 := F_mark (uset s 10 6 v) ; (v5, z6)) (y := ((-2), s)) (fun x : Int32 × SG => x.2) (by (try dsimp only); exact (Fr.tr (s1 := (uset s 10 6 v)) (Fr.uset (s1 := s) (a := 10) (j := 6) (x := v) (by rfl) (Fr.rf _ _)) (Fr.wk (W2 := W_tellHome) (fr_mark (uset s 10 6 v) ) (by rfl)))) (by (try dsimp only); exact (Fr.rf _ _)))))
set_option maxRecDepth 20000 in
set_option maxHeartbeats 200000 in
theorem ux_tellHome (s : SG) (v : Int32)  : UP m_X6_tellHome 0 (m_ent 3 [.ref 0, .int v]) [] s (Qb (F_tellHome s v)) := by
  refine UP.stp 2 (i1 := 2) (L1 := [some (.ref 0), some (.int v), none]) (st1 := [.int 50, .int v]) (s1 := s) rfl ?_
  refine UP.spl (m_cmp .lt v 50) (((-2), s)) (bif m_cmp .le v 999 then (let v5 := s 10 6; let z6 := F_mark (uset s 10 6 v) ; (v5, z6)) else (((-2), s))) (by first | (dsimp only [F_tellHome]; done) | (dsimp only; done) | rfl) (fun cc => ?_) (fun cc => ?_)
  · skip
    refine UP.icT rfl cc ?_
    refine UP.stp 1 (i1 := 7) (L1 := [some (.ref 0), some (.int v), none]) (st1 := [.int (-2)]) (s1 := s) rfl ?_
    exact UP.ret (r := some (.int (-2))) rfl ⟨by first | (dsimp only [F_tellHome]; done) | (dsimp only; done) | rfl, by first | (dsimp only [F_tellHome]; done) | (dsimp only; done) | rfl⟩
  · skip
    refine UP.icF rfl cc ?_
    refine UP.stp 2 (i1 := 5) (L1 := [some (.ref 0), some (.int v), none]) (st1 := [.int 999, .int v]) (s1 := s) rfl ?_
    refine UP.spl (m_cmp .le v 999) (let v5 := s 10 6; let z6 := F_mark (uset s 10 6 v) ; (v5, z6)) (((-2), s)) (by first | (dsimp only [F_tellHome]; done) | (dsimp only; done) | rfl) (fun cc => ?_) (fun cc => ?_)
    · skip
      refine UP.icT rfl cc ?_
      refine UP.stp 3 (i1 := 11) (L1 := [some (.ref 0), some (.int v), none]) (st1 := [.int (s 10 6)]) (s1 := s) rfl ?_
      refine nm (G := fun v5 => UP m_X6_tellHome 11 [some (.ref 0), some (.int v), none] [.int v5] s (Qb (let v5 := s 10 6; let z6 := F_mark (uset s 10 6 v) ; (v5, z6)))) (s 10 6) (fun v5 e5 => ?_)
      refine UP.stp 6 (i1 := 17) (L1 := [some (.ref 0), some (.int v), some (.int v5)]) (st1 := [.ref 0]) (s1 := (uset s 10 6 v)) rfl ?_
      refine UP.cV (M1 := m_X6_markChanged) (as := [.ref 0]) (rest := []) (T := F_mark (uset s 10 6 v) ) rfl rfl (ux_mark (uset s 10 6 v) ) (fun z6 e6 => ?_)
      refine UP.stp 1 (i1 := 19) (L1 := [some (.ref 0), some (.int v), some (.int v5)]) (st1 := [.int v5]) (s1 := z6) rfl ?_
      exact UP.ret (r := some (.int v5)) rfl ⟨by subst e6 e5; first | (dsimp only [F_tellHome]; done) | (dsimp only; done) | rfl, by subst e6 e5; first | (dsimp only [F_tellHome]; done) | (dsimp only; done) | rfl⟩
    · skip
      refine UP.icF rfl cc ?_
      refine UP.stp 1 (i1 := 7) (L1 := [some (.ref 0), some (.int v), none]) (st1 := [.int (-2)]) (s1 := s) rfl ?_
      exact UP.ret (r := some (.int (-2))) rfl ⟨by first | (dsimp only [F_tellHome]; done) | (dsimp only; done) | rfl, by first | (dsimp only [F_tellHome]; done) | (dsimp only; done) | rfl⟩
def W_criver : List (Nat × Nat × Option Nat) := [(0, 0, some 12), (0, 0, some 13), (10, 10, some 5), (10, 10, some 6)]
def F_criver (s : SG) (what : Int32) (v : Int32) : Int32 × SG := bif m_cmp .ne what 0 then (let w4 := bif m_cmp .ne what 1 then ((-2 : Int32), s) else (F_tellHome s v); w4) else (let z5 := F_tellStream s v; z5)
set_option maxRecDepth 20000 in
set_option maxHeartbeats 200000 in
theorem fr_criver (s : SG) (what : Int32) (v : Int32)  : Fr W_criver s (F_criver s what v).2 := by dsimp only [F_criver]; exact (Fr.bifp (b := m_cmp .ne what 0) (x := let w4 := bif m_cmp .ne what 1 then ((-2 : Int32), s) else (F_tellHome s v); w4) (y := let z5 := F_tellStream s v; z5) (fun x : Int32 × SG => x.2) (by (try dsimp only); exact (Fr.bifp (b := m_cmp .ne what 1) (x := ((-2 : Int32), s)) (y := (F_tellHome s v)) (fun x : Int32 × SG => x.2) (by (try dsimp only); exact (Fr.rf _ _)) (by (try dsimp only); exact (Fr.tr (s1 := s) (Fr.rf _ _) (Fr.wk (W2 := W_criver) (fr_tellHome s v) (by rfl)))))) (by (try dsimp only); exact (Fr.tr (s1 := s) (Fr.rf _ _) (Fr.wk (W2 := W_criver) (fr_tellStream s v) (by rfl)))))
set_option maxRecDepth 20000 in
set_option maxHeartbeats 200000 in
theorem ux_criver (s : SG) (what : Int32) (v : Int32)  : UP m_X6_river 0 (m_ent 3 [.ref 0, .int what, .int v]) [] s (Qb (F_criver s what v)) := by
  refine UP.stp 1 (i1 := 1) (L1 := [some (.ref 0), some (.int what), some (.int v)]) (st1 := [.int what]) (s1 := s) rfl ?_
  refine UP.spl (m_cmp .ne what 0) (let w4 := bif m_cmp .ne what 1 then ((-2 : Int32), s) else (F_tellHome s v); w4) (let z5 := F_tellStream s v; z5) (by first | (dsimp only [F_criver]; done) | (dsimp only; done) | rfl) (fun cc => ?_) (fun cc => ?_)
  · skip
    refine UP.ifT rfl cc ?_
    refine UP.stp 2 (i1 := 8) (L1 := [some (.ref 0), some (.int what), some (.int v)]) (st1 := [.int 1, .int what]) (s1 := s) rfl ?_
    refine mrg (m_cmp .ne what 1) ((-2 : Int32), s) (F_tellHome s v) (fun w4 : Int32 × SG => UP m_X6_river 14 [some (.ref 0), some (.int what), some (.int v)] [.int w4.1] w4.2 (Qb (let w4 := bif m_cmp .ne what 1 then ((-2 : Int32), s) else (F_tellHome s v); w4))) (fun cc kk => ?_) (fun cc kk => ?_) (fun w4 e4 => ?_)
    · skip
      refine UP.icT rfl cc ?_
      refine UP.stp 1 (i1 := 14) (L1 := [some (.ref 0), some (.int what), some (.int v)]) (st1 := [.int (-2)]) (s1 := s) rfl ?_
      exact kk
    · skip
      refine UP.icF rfl cc ?_
      refine UP.stp 2 (i1 := 11) (L1 := [some (.ref 0), some (.int what), some (.int v)]) (st1 := [.int v, .ref 0]) (s1 := s) rfl ?_
      refine UP.cB (M1 := m_X6_tellHome) (as := [.ref 0, .int v]) (rest := []) (T := F_tellHome s v) rfl rfl (ux_tellHome s v) (fun z3 e3 => ?_)
      refine UP.stp 1 (i1 := 14) (L1 := [some (.ref 0), some (.int what), some (.int v)]) (st1 := [.int z3.1]) (s1 := z3.2) rfl ?_
      subst e3
      exact kk
    exact UP.ret (r := some (.int w4.1)) rfl ⟨by subst e4; first | (dsimp only [F_criver]; done) | (dsimp only; done) | rfl, by subst e4; first | (dsimp only [F_criver]; done) | (dsimp only; done) | rfl⟩
  · skip
    refine UP.ifF rfl cc ?_
    refine UP.stp 2 (i1 := 4) (L1 := [some (.ref 0), some (.int what), some (.int v)]) (st1 := [.int v, .ref 0]) (s1 := s) rfl ?_
    refine UP.cB (M1 := m_X6_tellStream) (as := [.ref 0, .int v]) (rest := []) (T := F_tellStream s v) rfl rfl (ux_tellStream s v) (fun z5 e5 => ?_)
    exact UP.ret (r := some (.int z5.1)) rfl ⟨by subst e5; first | (dsimp only [F_criver]; done) | (dsimp only; done) | rfl, by subst e5; first | (dsimp only [F_criver]; done) | (dsimp only; done) | rfl⟩
def W_append : List (Nat × Nat × Option Nat) := [(3, 5, none), (2, 2, some 3)]
def F_append (s : SG) (k : Int32) (mi : Int32) (nu : Int32) : SG := let v1 := (s 2 3) + 1; (uset (uset (uset (uset s 3 ((s 2 3).toNatClampNeg) k) 4 ((s 2 3).toNatClampNeg) mi) 5 ((s 2 3).toNatClampNeg) nu) 2 3 v1)
set_option maxRecDepth 20000 in
set_option maxHeartbeats 200000 in
theorem fr_append (s : SG) (k : Int32) (mi : Int32) (nu : Int32)  : Fr W_append s (F_append s k mi nu) := by dsimp only [F_append]; exact (let v1 : Int32 := (s 2 3) + 1; (Fr.uset (s1 := (uset (uset (uset s 3 ((s 2 3).toNatClampNeg) k) 4 ((s 2 3).toNatClampNeg) mi) 5 ((s 2 3).toNatClampNeg) nu)) (a := 2) (j := 3) (x := v1) (by rfl) (Fr.uset (s1 := (uset (uset s 3 ((s 2 3).toNatClampNeg) k) 4 ((s 2 3).toNatClampNeg) mi)) (a := 5) (j := (s 2 3).toNatClampNeg) (x := nu) (by rfl) (Fr.uset (s1 := (uset s 3 ((s 2 3).toNatClampNeg) k)) (a := 4) (j := (s 2 3).toNatClampNeg) (x := mi) (by rfl) (Fr.uset (s1 := s) (a := 3) (j := (s 2 3).toNatClampNeg) (x := k) (by rfl) (Fr.rf _ _))))))
set_option maxRecDepth 20000 in
set_option maxHeartbeats 200000 in
theorem ux_append (s : SG) (k : Int32) (mi : Int32) (nu : Int32)  : UP m_X1_append 0 (m_ent 4 [.ref 2, .int k, .int mi, .int nu]) [] s (Qv (F_append s k mi nu)) := by
  refine UP.stp 23 (i1 := 23) (L1 := [some (.ref 2), some (.int k), some (.int mi), some (.int nu)]) (st1 := [.int ((s 2 3) + 1), .ref 2]) (s1 := (uset (uset (uset s 3 ((s 2 3).toNatClampNeg) k) 4 ((s 2 3).toNatClampNeg) mi) 5 ((s 2 3).toNatClampNeg) nu)) rfl ?_
  refine nm (G := fun v1 => UP m_X1_append 23 [some (.ref 2), some (.int k), some (.int mi), some (.int nu)] [.int v1, .ref 2] (uset (uset (uset s 3 ((s 2 3).toNatClampNeg) k) 4 ((s 2 3).toNatClampNeg) mi) 5 ((s 2 3).toNatClampNeg) nu) (Qv (F_append s k mi nu))) ((s 2 3) + 1) (fun v1 e1 => ?_)
  refine UP.stp 1 (i1 := 24) (L1 := [some (.ref 2), some (.int k), some (.int mi), some (.int nu)]) (st1 := []) (s1 := (uset (uset (uset (uset s 3 ((s 2 3).toNatClampNeg) k) 4 ((s 2 3).toNatClampNeg) mi) 5 ((s 2 3).toNatClampNeg) nu) 2 3 v1)) rfl ?_
  exact UP.ret (r := none) rfl ⟨by subst e1; first | (dsimp only [F_append]; done) | (dsimp only; done) | rfl, by subst e1; first | (dsimp only [F_append]; done) | (dsimp only; done) | rfl⟩
end
section
def W_cevent : List (Nat × Nat × Option Nat) := [(0, 0, some 12), (0, 0, some 13), (3, 5, none), (2, 2, some 3)]
def F_cevent (s : SG) (kind : Int32) (minute : Int32) (number : Int32) : Int32 × SG := bif m_cmp .eq (F_isBelow s kind 3) 0 then (((-2), s)) else (bif m_cmp .eq (F_isBelow s minute 24) 0 then (((-2), s)) else (bif m_cmp .ne (F_isBelow s number 8) 0 then (bif m_cmp .lt (s 2 3) 8 then (let z12 := F_append s kind minute number; let z13 := F_mark z12 ; (z13 2 3, z13)) else (((-4), s))) else (((-2), s))))
set_option maxRecDepth 20000 in
set_option maxHeartbeats 200000 in
theorem fr_cevent (s : SG) (kind : Int32) (minute : Int32) (number : Int32)  : Fr W_cevent s (F_cevent s kind minute number).2 := by dsimp only [F_cevent]; exact (Fr.bifp (b := m_cmp .eq (F_isBelow s kind 3) 0) (x := ((-2), s)) (y := bif m_cmp .eq (F_isBelow s minute 24) 0 then (((-2), s)) else (bif m_cmp .ne (F_isBelow s number 8) 0 then (bif m_cmp .lt (s 2 3) 8 then (let z12 := F_append s kind minute number; let z13 := F_mark z12 ; (z13 2 3, z13)) else (((-4), s))) else (((-2), s)))) (fun x : Int32 × SG => x.2) (by (try dsimp only); exact (Fr.rf _ _)) (by (try dsimp only); exact (Fr.bifp (b := m_cmp .eq (F_isBelow s minute 24) 0) (x := ((-2), s)) (y := bif m_cmp .ne (F_isBelow s number 8) 0 then (bif m_cmp .lt (s 2 3) 8 then (let z12 := F_append s kind minute number; let z13 := F_mark z12 ; (z13 2 3, z13)) else (((-4), s))) else (((-2), s))) (fun x : Int32 × SG => x.2) (by (try dsimp only); exact (Fr.rf _ _)) (by (try dsimp only); exact (Fr.bifp (b := m_cmp .ne (F_isBelow s number 8) 0) (x := bif m_cmp .lt (s 2 3) 8 then (let z12 := F_append s kind minute number; let z13 := F_mark z12 ; (z13 2 3, z13)) else (((-4), s))) (y := ((-2), s)) (fun x : Int32 × SG => x.2) (by (try dsimp only); exact (Fr.bifp (b := m_cmp .lt (s 2 3) 8) (x := let z12 := F_append s kind minute number; let z13 := F_mark z12 ; (z13 2 3, z13)) (y := ((-4), s)) (fun x : Int32 × SG => x.2) (by (try dsimp only); exact (let z12 : SG := F_append s kind minute number; (Fr.tr (s1 := z12) (Fr.tr (s1 := s) (Fr.rf _ _) (Fr.wk (W2 := W_cevent) (fr_append s kind minute number) (by rfl))) (Fr.wk (W2 := W_cevent) (fr_mark z12 ) (by rfl))))) (by (try dsimp only); exact (Fr.rf _ _)))) (by (try dsimp only); exact (Fr.rf _ _)))))))
set_option maxRecDepth 20000 in
set_option maxHeartbeats 200000 in
theorem ux_cevent (s : SG) (kind : Int32) (minute : Int32) (number : Int32)  : UP m_X6_event 0 (m_ent 4 [.ref 0, .int kind, .int minute, .int number]) [] s (Qb (F_cevent s kind minute number)) := by
  refine UP.stp 2 (i1 := 2) (L1 := [some (.ref 0), some (.int kind), some (.int minute), some (.int number)]) (st1 := [.int 3, .int kind]) (s1 := s) rfl ?_
  refine UP.cI (M1 := m_X6_isBelow) (as := [.int kind, .int 3]) (rest := []) (T := F_isBelow s kind 3) rfl rfl (ux_isBelow s kind 3) ?_
  refine UP.spl (m_cmp .eq (F_isBelow s kind 3) 0) (((-2), s)) (bif m_cmp .eq (F_isBelow s minute 24) 0 then (((-2), s)) else (bif m_cmp .ne (F_isBelow s number 8) 0 then (bif m_cmp .lt (s 2 3) 8 then (let z12 := F_append s kind minute number; let z13 := F_mark z12 ; (z13 2 3, z13)) else (((-4), s))) else (((-2), s)))) (by first | (dsimp only [F_cevent]; done) | (dsimp only; done) | rfl) (fun cc => ?_) (fun cc => ?_)
  · skip
    refine UP.ifT rfl cc ?_
    refine UP.stp 1 (i1 := 13) (L1 := [some (.ref 0), some (.int kind), some (.int minute), some (.int number)]) (st1 := [.int (-2)]) (s1 := s) rfl ?_
    exact UP.ret (r := some (.int (-2))) rfl ⟨by first | (dsimp only [F_cevent]; done) | (dsimp only; done) | rfl, by first | (dsimp only [F_cevent]; done) | (dsimp only; done) | rfl⟩
  · skip
    refine UP.ifF rfl cc ?_
    refine UP.stp 2 (i1 := 6) (L1 := [some (.ref 0), some (.int kind), some (.int minute), some (.int number)]) (st1 := [.int 24, .int minute]) (s1 := s) rfl ?_
    refine UP.cI (M1 := m_X6_isBelow) (as := [.int minute, .int 24]) (rest := []) (T := F_isBelow s minute 24) rfl rfl (ux_isBelow s minute 24) ?_
    refine UP.spl (m_cmp .eq (F_isBelow s minute 24) 0) (((-2), s)) (bif m_cmp .ne (F_isBelow s number 8) 0 then (bif m_cmp .lt (s 2 3) 8 then (let z12 := F_append s kind minute number; let z13 := F_mark z12 ; (z13 2 3, z13)) else (((-4), s))) else (((-2), s))) (by first | (dsimp only [F_cevent]; done) | (dsimp only; done) | rfl) (fun cc => ?_) (fun cc => ?_)
    · skip
      refine UP.ifT rfl cc ?_
      refine UP.stp 1 (i1 := 13) (L1 := [some (.ref 0), some (.int kind), some (.int minute), some (.int number)]) (st1 := [.int (-2)]) (s1 := s) rfl ?_
      exact UP.ret (r := some (.int (-2))) rfl ⟨by first | (dsimp only [F_cevent]; done) | (dsimp only; done) | rfl, by first | (dsimp only [F_cevent]; done) | (dsimp only; done) | rfl⟩
    · skip
      refine UP.ifF rfl cc ?_
      refine UP.stp 2 (i1 := 10) (L1 := [some (.ref 0), some (.int kind), some (.int minute), some (.int number)]) (st1 := [.int 8, .int number]) (s1 := s) rfl ?_
      refine UP.cI (M1 := m_X6_isBelow) (as := [.int number, .int 8]) (rest := []) (T := F_isBelow s number 8) rfl rfl (ux_isBelow s number 8) ?_
      refine UP.spl (m_cmp .ne (F_isBelow s number 8) 0) (bif m_cmp .lt (s 2 3) 8 then (let z12 := F_append s kind minute number; let z13 := F_mark z12 ; (z13 2 3, z13)) else (((-4), s))) (((-2), s)) (by first | (dsimp only [F_cevent]; done) | (dsimp only; done) | rfl) (fun cc => ?_) (fun cc => ?_)
      · skip
        refine UP.ifT rfl cc ?_
        refine UP.stp 4 (i1 := 18) (L1 := [some (.ref 0), some (.int kind), some (.int minute), some (.int number)]) (st1 := [.int 8, .int (s 2 3)]) (s1 := s) rfl ?_
        refine UP.spl (m_cmp .lt (s 2 3) 8) (let z12 := F_append s kind minute number; let z13 := F_mark z12 ; (z13 2 3, z13)) (((-4), s)) (by first | (dsimp only [F_cevent]; done) | (dsimp only; done) | rfl) (fun cc => ?_) (fun cc => ?_)
        · skip
          refine UP.icT rfl cc ?_
          refine UP.stp 5 (i1 := 26) (L1 := [some (.ref 0), some (.int kind), some (.int minute), some (.int number)]) (st1 := [.int number, .int minute, .int kind, .ref 2]) (s1 := s) rfl ?_
          refine UP.cV (M1 := m_X1_append) (as := [.ref 2, .int kind, .int minute, .int number]) (rest := []) (T := F_append s kind minute number) rfl rfl (ux_append s kind minute number) (fun z12 e12 => ?_)
          refine UP.stp 1 (i1 := 28) (L1 := [some (.ref 0), some (.int kind), some (.int minute), some (.int number)]) (st1 := [.ref 0]) (s1 := z12) rfl ?_
          refine UP.cV (M1 := m_X6_markChanged) (as := [.ref 0]) (rest := []) (T := F_mark z12 ) rfl rfl (ux_mark z12 ) (fun z13 e13 => ?_)
          refine UP.stp 3 (i1 := 32) (L1 := [some (.ref 0), some (.int kind), some (.int minute), some (.int number)]) (st1 := [.int (z13 2 3)]) (s1 := z13) rfl ?_
          exact UP.ret (r := some (.int (z13 2 3))) rfl ⟨by subst e13 e12; first | (dsimp only [F_cevent]; done) | (dsimp only; done) | rfl, by subst e13 e12; first | (dsimp only [F_cevent]; done) | (dsimp only; done) | rfl⟩
        · skip
          refine UP.icF rfl cc ?_
          refine UP.stp 1 (i1 := 20) (L1 := [some (.ref 0), some (.int kind), some (.int minute), some (.int number)]) (st1 := [.int (-4)]) (s1 := s) rfl ?_
          exact UP.ret (r := some (.int (-4))) rfl ⟨by first | (dsimp only [F_cevent]; done) | (dsimp only; done) | rfl, by first | (dsimp only [F_cevent]; done) | (dsimp only; done) | rfl⟩
      · skip
        refine UP.ifF rfl cc ?_
        refine UP.stp 1 (i1 := 13) (L1 := [some (.ref 0), some (.int kind), some (.int minute), some (.int number)]) (st1 := [.int (-2)]) (s1 := s) rfl ?_
        exact UP.ret (r := some (.int (-2))) rfl ⟨by first | (dsimp only [F_cevent]; done) | (dsimp only; done) | rfl, by first | (dsimp only [F_cevent]; done) | (dsimp only; done) | rfl⟩
def W_cback : List (Nat × Nat × Option Nat) := [(0, 0, some 12), (0, 0, some 13), (2, 2, some 3)]
def F_cback (s : SG)  : Int32 × SG := bif m_cmp .ne (s 2 3) 0 then (let v3 := (s 2 3) - 1; let z4 := F_mark (uset s 2 3 v3) ; (z4 2 3, z4)) else (((-3), s))
set_option maxRecDepth 20000 in
set_option maxHeartbeats 200000 in
theorem fr_cback (s : SG)   : Fr W_cback s (F_cback s).2 := by dsimp only [F_cback]; exact (Fr.bifp (b := m_cmp .ne (s 2 3) 0) (x := let v3 := (s 2 3) - 1; let z4 := F_mark (uset s 2 3 v3) ; (z4 2 3, z4)) (y := ((-3), s)) (fun x : Int32 × SG => x.2) (by (try dsimp only); exact (let v3 : Int32 := (s 2 3) - 1; (Fr.tr (s1 := (uset s 2 3 v3)) (Fr.uset (s1 := s) (a := 2) (j := 3) (x := v3) (by rfl) (Fr.rf _ _)) (Fr.wk (W2 := W_cback) (fr_mark (uset s 2 3 v3) ) (by rfl))))) (by (try dsimp only); exact (Fr.rf _ _)))
set_option maxRecDepth 20000 in
set_option maxHeartbeats 200000 in
theorem ux_cback (s : SG)   : UP m_X6_back 0 (m_ent 1 [.ref 0]) [] s (Qb (F_cback s)) := by
  refine UP.stp 3 (i1 := 3) (L1 := [some (.ref 0)]) (st1 := [.int (s 2 3)]) (s1 := s) rfl ?_
  refine UP.spl (m_cmp .ne (s 2 3) 0) (let v3 := (s 2 3) - 1; let z4 := F_mark (uset s 2 3 v3) ; (z4 2 3, z4)) (((-3), s)) (by first | (dsimp only [F_cback]; done) | (dsimp only; done) | rfl) (fun cc => ?_) (fun cc => ?_)
  · skip
    refine UP.ifT rfl cc ?_
    refine UP.stp 6 (i1 := 12) (L1 := [some (.ref 0)]) (st1 := [.int ((s 2 3) - 1), .ref 2]) (s1 := s) rfl ?_
    refine nm (G := fun v3 => UP m_X6_back 12 [some (.ref 0)] [.int v3, .ref 2] s (Qb (let v3 := (s 2 3) - 1; let z4 := F_mark (uset s 2 3 v3) ; (z4 2 3, z4)))) ((s 2 3) - 1) (fun v3 e3 => ?_)
    refine UP.stp 2 (i1 := 14) (L1 := [some (.ref 0)]) (st1 := [.ref 0]) (s1 := (uset s 2 3 v3)) rfl ?_
    refine UP.cV (M1 := m_X6_markChanged) (as := [.ref 0]) (rest := []) (T := F_mark (uset s 2 3 v3) ) rfl rfl (ux_mark (uset s 2 3 v3) ) (fun z4 e4 => ?_)
    refine UP.stp 3 (i1 := 18) (L1 := [some (.ref 0)]) (st1 := [.int (z4 2 3)]) (s1 := z4) rfl ?_
    exact UP.ret (r := some (.int (z4 2 3))) rfl ⟨by subst e4 e3; first | (dsimp only [F_cback]; done) | (dsimp only; done) | rfl, by subst e4 e3; first | (dsimp only [F_cback]; done) | (dsimp only; done) | rfl⟩
  · skip
    refine UP.ifF rfl cc ?_
    refine UP.stp 1 (i1 := 5) (L1 := [some (.ref 0)]) (st1 := [.int (-3)]) (s1 := s) rfl ?_
    exact UP.ret (r := some (.int (-3))) rfl ⟨by first | (dsimp only [F_cback]; done) | (dsimp only; done) | rfl, by first | (dsimp only [F_cback]; done) | (dsimp only; done) | rfl⟩
def W_sappend : List (Nat × Nat × Option Nat) := [(7, 8, none), (6, 6, some 2)]
def F_sappend (s : SG) (mi : Int32) (pl : Int32) : SG := let v1 := (s 6 2) + 1; (uset (uset (uset s 7 ((s 6 2).toNatClampNeg) mi) 8 ((s 6 2).toNatClampNeg) pl) 6 2 v1)
set_option maxRecDepth 20000 in
set_option maxHeartbeats 200000 in
theorem fr_sappend (s : SG) (mi : Int32) (pl : Int32)  : Fr W_sappend s (F_sappend s mi pl) := by dsimp only [F_sappend]; exact (let v1 : Int32 := (s 6 2) + 1; (Fr.uset (s1 := (uset (uset s 7 ((s 6 2).toNatClampNeg) mi) 8 ((s 6 2).toNatClampNeg) pl)) (a := 6) (j := 2) (x := v1) (by rfl) (Fr.uset (s1 := (uset s 7 ((s 6 2).toNatClampNeg) mi)) (a := 8) (j := (s 6 2).toNatClampNeg) (x := pl) (by rfl) (Fr.uset (s1 := s) (a := 7) (j := (s 6 2).toNatClampNeg) (x := mi) (by rfl) (Fr.rf _ _)))))
set_option maxRecDepth 20000 in
set_option maxHeartbeats 200000 in
theorem ux_sappend (s : SG) (mi : Int32) (pl : Int32)  : UP m_X2_append 0 (m_ent 3 [.ref 6, .int mi, .int pl]) [] s (Qv (F_sappend s mi pl)) := by
  refine UP.stp 17 (i1 := 17) (L1 := [some (.ref 6), some (.int mi), some (.int pl)]) (st1 := [.int ((s 6 2) + 1), .ref 6]) (s1 := (uset (uset s 7 ((s 6 2).toNatClampNeg) mi) 8 ((s 6 2).toNatClampNeg) pl)) rfl ?_
  refine nm (G := fun v1 => UP m_X2_append 17 [some (.ref 6), some (.int mi), some (.int pl)] [.int v1, .ref 6] (uset (uset s 7 ((s 6 2).toNatClampNeg) mi) 8 ((s 6 2).toNatClampNeg) pl) (Qv (F_sappend s mi pl))) ((s 6 2) + 1) (fun v1 e1 => ?_)
  refine UP.stp 1 (i1 := 18) (L1 := [some (.ref 6), some (.int mi), some (.int pl)]) (st1 := []) (s1 := (uset (uset (uset s 7 ((s 6 2).toNatClampNeg) mi) 8 ((s 6 2).toNatClampNeg) pl) 6 2 v1)) rfl ?_
  exact UP.ret (r := none) rfl ⟨by subst e1; first | (dsimp only [F_sappend]; done) | (dsimp only; done) | rfl, by subst e1; first | (dsimp only [F_sappend]; done) | (dsimp only; done) | rfl⟩
end
