def W_signFault_2 : List (Nat × Nat × Option Nat) := []
def B_signFault_2_2 (s : SG) (i1 : Nat) (a1 : Unit) : (Unit) ⊕ (Int32) := let v2 := s 114 i1; let v5 := bif m_cmp .eq v2 108 then (1 : Int32) else (bif m_cmp .eq v2 114 then (1 : Int32) else (bif m_cmp .ne v2 45 then (0 : Int32) else (1 : Int32))); bif m_cmp .ne v5 0 then (.inl ()) else (.inr (Int32.ofNat i1))
def F_signFault_2 (s : SG)  : Int32 := Sum.elim (fun z1 : Unit => (-1)) (fun x : Nat × (Int32) => x.2) (itx (B_signFault_2_2 s) 0 ((s 113 1).toNatClampNeg) ())
theorem ux_signFault_2 (s : SG)   : UP m_X4_signFault 0 (m_ent 5 [.ref 113, .int 0]) [] s (Qi s (F_signFault_2 s)) := by
  refine UP.stp 2 (i1 := 2) (L1 := [some (.ref 113), some (.int 0), some (.int 0), none, none]) (st1 := []) (s1 := s) rfl ?_
  refine lpx (fun (i1 : Nat) (a1 : Unit) => ∀ (u1_3 : Option Value) (u1_4 : Option Value), UP m_X4_signFault 2 [some (.ref 113), some (.int 0), some (.int (Int32.ofNat i1)), u1_3, u1_4] [] s (Qi s (F_signFault_2 s))) (fun (_ : Nat) (b1 : Int32) => (F_signFault_2 s) = b1) (fun (_ : Nat) (a1 : Unit) => Fr W_signFault_2 s s) (B_signFault_2_2 s) ((s 113 1).toNatClampNeg) (fun i1 a1 x1 hi1 g1 e => g1) (fun i1 a1 hi1 g1 kk => ?_) ((s 113 1).toNatClampNeg) (0) () (by omega) (Fr.rf _ _) (fun z1 e1 g1 => ?_) (fun i1 a1 b1 e1 hi1 g1 f1 => by have q : (F_signFault_2 s) = Sum.elim (fun z1 : Unit => (-1)) (fun x : Nat × (Int32) => x.2) (itx (B_signFault_2_2 s) 0 ((s 113 1).toNatClampNeg) ()) := (by rfl); rw [q, e1]; rfl) none none
  · skip
    intro u1_3 u1_4
    have hbi1 := cl_lt (s 113 1)
    refine UP.stp 3 (i1 := 5) (L1 := [some (.ref 113), some (.int 0), some (.int (Int32.ofNat i1)), u1_3, u1_4]) (st1 := [.int (s 113 1), .int (Int32.ofNat i1)]) (s1 := s) rfl ?_
    refine UP.icF rfl (ge_F hi1) ?_
    refine UP.stp 3 (i1 := 9) (L1 := [some (.ref 113), some (.int 0), some (.int (Int32.ofNat i1)), u1_3, u1_4]) (st1 := [.int (Int32.ofNat i1), .ref 114]) (s1 := s) rfl ?_
    refine UP.ald (e := i1) rfl rfl (by omega) ?_
    show UP m_X4_signFault 10 [some (.ref 113), some (.int 0), some (.int (Int32.ofNat i1)), u1_3, u1_4] [.int (s 114 i1)] s (Qi s (F_signFault_2 s))
    refine nm (G := fun v2 => UP m_X4_signFault 10 [some (.ref 113), some (.int 0), some (.int (Int32.ofNat i1)), u1_3, u1_4] [.int v2] s (Qi s (F_signFault_2 s))) (s 114 i1) (fun v2 e2 => ?_)
    refine UP.stp 5 (i1 := 25) (L1 := [some (.ref 113), some (.int 0), some (.int (Int32.ofNat i1)), some (.int v2), u1_4]) (st1 := [.int 108, .int v2]) (s1 := s) rfl ?_
    refine mrg (m_cmp .eq v2 108) (1 : Int32) (bif m_cmp .eq v2 114 then (1 : Int32) else (bif m_cmp .ne v2 45 then (0 : Int32) else (1 : Int32))) (fun v5 : Int32 => UP m_X4_signFault 35 [some (.ref 113), some (.int 0), some (.int (Int32.ofNat i1)), some (.int v2), u1_4] [.int v5] s (Qi s (F_signFault_2 s))) (fun cc kk => ?_) (fun cc kk => ?_) (fun v5 e5 => ?_)
    · skip
      refine UP.icT rfl cc ?_
      refine UP.stp 2 (i1 := 35) (L1 := [some (.ref 113), some (.int 0), some (.int (Int32.ofNat i1)), some (.int v2), u1_4]) (st1 := [.int 1]) (s1 := s) rfl ?_
      exact kk
    · skip
      refine UP.icF rfl cc ?_
      refine UP.stp 2 (i1 := 28) (L1 := [some (.ref 113), some (.int 0), some (.int (Int32.ofNat i1)), some (.int v2), u1_4]) (st1 := [.int 114, .int v2]) (s1 := s) rfl ?_
      refine mrg (m_cmp .eq v2 114) (1 : Int32) (bif m_cmp .ne v2 45 then (0 : Int32) else (1 : Int32)) (fun v4 : Int32 => UP m_X4_signFault 35 [some (.ref 113), some (.int 0), some (.int (Int32.ofNat i1)), some (.int v2), u1_4] [.int v4] s (Qi s (F_signFault_2 s))) (fun cc kk => ?_) (fun cc kk => ?_) (fun v4 e4 => ?_)
      · skip
        refine UP.icT rfl cc ?_
        refine UP.stp 2 (i1 := 35) (L1 := [some (.ref 113), some (.int 0), some (.int (Int32.ofNat i1)), some (.int v2), u1_4]) (st1 := [.int 1]) (s1 := s) rfl ?_
        exact kk
      · skip
        refine UP.icF rfl cc ?_
        refine UP.stp 2 (i1 := 31) (L1 := [some (.ref 113), some (.int 0), some (.int (Int32.ofNat i1)), some (.int v2), u1_4]) (st1 := [.int 45, .int v2]) (s1 := s) rfl ?_
        refine mrg (m_cmp .ne v2 45) (0 : Int32) (1 : Int32) (fun v3 : Int32 => UP m_X4_signFault 35 [some (.ref 113), some (.int 0), some (.int (Int32.ofNat i1)), some (.int v2), u1_4] [.int v3] s (Qi s (F_signFault_2 s))) (fun cc kk => ?_) (fun cc kk => ?_) (fun v3 e3 => ?_)
        · skip
          refine UP.icT rfl cc ?_
          refine UP.stp 1 (i1 := 35) (L1 := [some (.ref 113), some (.int 0), some (.int (Int32.ofNat i1)), some (.int v2), u1_4]) (st1 := [.int 0]) (s1 := s) rfl ?_
          exact kk
        · skip
          refine UP.icF rfl cc ?_
          refine UP.stp 2 (i1 := 35) (L1 := [some (.ref 113), some (.int 0), some (.int (Int32.ofNat i1)), some (.int v2), u1_4]) (st1 := [.int 1]) (s1 := s) rfl ?_
          exact kk
        subst e3
        exact kk
      subst e4
      exact kk
    refine UP.stp 2 (i1 := 37) (L1 := [some (.ref 113), some (.int 0), some (.int (Int32.ofNat i1)), some (.int v2), some (.int v5)]) (st1 := [.int v5]) (s1 := s) rfl ?_
    refine brk (K := (Kx (fun (i1 : Nat) (a1 : Unit) => ∀ (u1_3 : Option Value) (u1_4 : Option Value), UP m_X4_signFault 2 [some (.ref 113), some (.int 0), some (.int (Int32.ofNat i1)), u1_3, u1_4] [] s (Qi s (F_signFault_2 s))) (fun (_ : Nat) (b1 : Int32) => (F_signFault_2 s) = b1) i1)) (m_cmp .ne v5 0) (.inl ()) (.inr (Int32.ofNat i1)) (by subst e5 e2; exact kk) (fun cc kk => ?_) (fun cc kk => ?_)
    · skip
      refine UP.ifT rfl cc ?_
      refine UP.stp 2 (i1 := 2) (L1 := [some (.ref 113), some (.int 0), some (.int ((Int32.ofNat i1) + 1)), some (.int v2), some (.int v5)]) (st1 := []) (s1 := s) rfl ?_
      subst e5 e2
      rw [ofn_s]
      exact kk _ _
    · skip
      refine UP.ifF rfl cc ?_
      refine UP.stp 1 (i1 := 39) (L1 := [some (.ref 113), some (.int 0), some (.int (Int32.ofNat i1)), some (.int v2), some (.int v5)]) (st1 := [.int (Int32.ofNat i1)]) (s1 := s) rfl ?_
      have kk : (F_signFault_2 s) = Int32.ofNat i1 := by subst e5 e2; exact kk
      exact UP.ret (r := some (.int (Int32.ofNat i1))) rfl ⟨by rw [kk], by rw [kk]⟩
  · skip
    intro u1_3 u1_4
    refine UP.eqT ((-1)) (by have q : (F_signFault_2 s) = Sum.elim (fun z1 : Unit => (-1)) (fun x : Nat × (Int32) => x.2) (itx (B_signFault_2_2 s) 0 ((s 113 1).toNatClampNeg) ()) := (by rfl); rw [q, e1]; rfl) ?_
    refine UP.stp 3 (i1 := 5) (L1 := [some (.ref 113), some (.int 0), some (.int (Int32.ofNat ((s 113 1).toNatClampNeg))), u1_3, u1_4]) (st1 := [.int (s 113 1), .int (Int32.ofNat ((s 113 1).toNatClampNeg))]) (s1 := s) rfl ?_
    refine UP.icT rfl (ge_T _) ?_
    refine UP.stp 1 (i1 := 43) (L1 := [some (.ref 113), some (.int 0), some (.int (Int32.ofNat ((s 113 1).toNatClampNeg))), u1_3, u1_4]) (st1 := [.int (-1)]) (s1 := s) rfl ?_
    exact UP.ret (r := some (.int (-1))) rfl ⟨by rfl, by rfl⟩
def W_takeCrew : List (Nat × Nat × Option Nat) := [(11, 12, none), (10, 10, some 0)]
def B_takeCrew_16  (i3 : Nat) (a3 : SG) : SG := let v4 := a3 110 (3 * i3); let v6 := bif m_cmp .ne v4 115 then (bif m_cmp .ne v4 102 then (2 : Int32) else (1 : Int32)) else (0 : Int32); let v7 := (a3 110 (3 * i3 + 1)) - 48; (uset (uset a3 11 i3 v6) 12 i3 v7)
theorem fr_B_takeCrew_16  (i3 : Nat) (a3 : SG)   : Fr W_takeCrew a3 ((B_takeCrew_16) i3 a3) := by dsimp only [B_takeCrew_16]; exact (let v4 : Int32 := a3 110 (3 * i3); (let v6 : Int32 := bif m_cmp .ne v4 115 then (bif m_cmp .ne v4 102 then (2 : Int32) else (1 : Int32)) else (0 : Int32); (let v7 : Int32 := (a3 110 (3 * i3 + 1)) - 48; (Fr.uset (s1 := (uset a3 11 i3 v6)) (a := 12) (j := i3) (x := v7) (by rfl) (Fr.uset (s1 := a3) (a := 11) (j := i3) (x := v6) (by rfl) (Fr.rf _ _))))))
def F_takeCrew (s : SG)  : SG := let v2 := bif m_cmp .ne (F_crewFault s) (-1) then (0 : Int32) else ((s 109 1) + 1) / 3; let z3 := itr (B_takeCrew_16) 0 (((uset s 10 0 v2) 10 0).toNatClampNeg) (uset s 10 0 v2); z3
theorem fr_takeCrew (s : SG)   : Fr W_takeCrew s (F_takeCrew s) := by dsimp only [F_takeCrew]; exact (let v2 : Int32 := bif m_cmp .ne (F_crewFault s) (-1) then (0 : Int32) else ((s 109 1) + 1) / 3; (Fr.itr (W := W_takeCrew) (m := (fun x : SG => x)) (fun i a => Fr.wk (W2 := W_takeCrew) (fr_B_takeCrew_16  i a ) (by rfl)) _ _ _ (Fr.uset (s1 := s) (a := 10) (j := 0) (x := v2) (by rfl) (Fr.rf _ _))))
theorem ux_takeCrew (s : SG)   : UP m_X0_takeCrew 0 (m_ent 4 [.ref 10, .ref 109]) [] s (Qv (F_takeCrew s)) := by
  refine UP.stp 2 (i1 := 2) (L1 := [some (.ref 10), some (.ref 109), none, none]) (st1 := [.ref 109, .ref 10]) (s1 := s) rfl ?_
  refine UP.cI (M1 := m_X4_crewFault) (as := [.ref 109]) (rest := [.ref 10]) (T := F_crewFault s ) rfl rfl (ux_crewFault s ) ?_
  refine UP.stp 1 (i1 := 4) (L1 := [some (.ref 10), some (.ref 109), none, none]) (st1 := [.int (-1), .int (F_crewFault s), .ref 10]) (s1 := s) rfl ?_
  refine mrg (m_cmp .ne (F_crewFault s) (-1)) (0 : Int32) (((s 109 1) + 1) / 3) (fun v2 : Int32 => UP m_X0_takeCrew 13 [some (.ref 10), some (.ref 109), none, none] [.int v2, .ref 10] s (Qv (F_takeCrew s))) (fun cc kk => ?_) (fun cc kk => ?_) (fun v2 e2 => ?_)
  · skip
    refine UP.icT rfl cc ?_
    refine UP.stp 1 (i1 := 13) (L1 := [some (.ref 10), some (.ref 109), none, none]) (st1 := [.int 0, .ref 10]) (s1 := s) rfl ?_
    exact kk
  · skip
    refine UP.icF rfl cc ?_
    refine UP.stp 7 (i1 := 13) (L1 := [some (.ref 10), some (.ref 109), none, none]) (st1 := [.int (((s 109 1) + 1) / 3), .ref 10]) (s1 := s) rfl ?_
    exact kk
  refine UP.stp 3 (i1 := 16) (L1 := [some (.ref 10), some (.ref 109), some (.int 0), none]) (st1 := []) (s1 := (uset s 10 0 v2)) rfl ?_
  refine lp (fun (i3 : Nat) (a3 : SG) => ∀ (u3_3 : Option Value), UP m_X0_takeCrew 16 [some (.ref 10), some (.ref 109), some (.int (Int32.ofNat i3)), u3_3] [] a3 (Qv (F_takeCrew s))) (fun (_ : Nat) (a3 : SG) => Fr W_takeCrew (uset s 10 0 v2) a3) (B_takeCrew_16) (((uset s 10 0 v2) 10 0).toNatClampNeg) (fun i3 a3 hi3 g3 => g3.tr (fr_B_takeCrew_16  i3 a3 )) (fun i3 a3 hi3 g3 kk => ?_) (((uset s 10 0 v2) 10 0).toNatClampNeg) (0) (uset s 10 0 v2) (by omega) (Fr.rf _ _) (fun z3 e3 g3 => ?_) none
  · skip
    intro u3_3
    have hbi3 := cl_lt ((uset s 10 0 v2) 10 0)
    refine UP.stp 3 (i1 := 19) (L1 := [some (.ref 10), some (.ref 109), some (.int (Int32.ofNat i3)), u3_3]) (st1 := [.int (a3 10 0), .int (Int32.ofNat i3)]) (s1 := a3) rfl ?_
    refine UP.icF rfl (by rw [(g3 10 0 rfl)]; exact ge_F hi3) ?_
    refine UP.stp 5 (i1 := 25) (L1 := [some (.ref 10), some (.ref 109), some (.int (Int32.ofNat i3)), u3_3]) (st1 := [.int (3 * (Int32.ofNat i3)), .ref 110]) (s1 := a3) rfl ?_
    refine UP.ald (e := 3 * i3) rfl (ofn_mul rfl rfl) (by omega) ?_
    show UP m_X0_takeCrew 26 [some (.ref 10), some (.ref 109), some (.int (Int32.ofNat i3)), u3_3] [.int (a3 110 (3 * i3))] a3 (Qv (F_takeCrew s))
    refine nm (G := fun v4 => UP m_X0_takeCrew 26 [some (.ref 10), some (.ref 109), some (.int (Int32.ofNat i3)), u3_3] [.int v4] a3 (Qv (F_takeCrew s))) (a3 110 (3 * i3)) (fun v4 e4 => ?_)
    refine UP.stp 6 (i1 := 32) (L1 := [some (.ref 10), some (.ref 109), some (.int (Int32.ofNat i3)), some (.int v4)]) (st1 := [.int 115, .int v4, .int (Int32.ofNat i3), .ref 11]) (s1 := a3) rfl ?_
    refine mrg (m_cmp .ne v4 115) (bif m_cmp .ne v4 102 then (2 : Int32) else (1 : Int32)) (0 : Int32) (fun v6 : Int32 => UP m_X0_takeCrew 41 [some (.ref 10), some (.ref 109), some (.int (Int32.ofNat i3)), some (.int v4)] [.int v6, .int (Int32.ofNat i3), .ref 11] a3 (Qv (F_takeCrew s))) (fun cc kk => ?_) (fun cc kk => ?_) (fun v6 e6 => ?_)
    · skip
      refine UP.icT rfl cc ?_
      refine UP.stp 2 (i1 := 37) (L1 := [some (.ref 10), some (.ref 109), some (.int (Int32.ofNat i3)), some (.int v4)]) (st1 := [.int 102, .int v4, .int (Int32.ofNat i3), .ref 11]) (s1 := a3) rfl ?_
      refine mrg (m_cmp .ne v4 102) (2 : Int32) (1 : Int32) (fun v5 : Int32 => UP m_X0_takeCrew 41 [some (.ref 10), some (.ref 109), some (.int (Int32.ofNat i3)), some (.int v4)] [.int v5, .int (Int32.ofNat i3), .ref 11] a3 (Qv (F_takeCrew s))) (fun cc kk => ?_) (fun cc kk => ?_) (fun v5 e5 => ?_)
      · skip
        refine UP.icT rfl cc ?_
        refine UP.stp 1 (i1 := 41) (L1 := [some (.ref 10), some (.ref 109), some (.int (Int32.ofNat i3)), some (.int v4)]) (st1 := [.int 2, .int (Int32.ofNat i3), .ref 11]) (s1 := a3) rfl ?_
        exact kk
      · skip
        refine UP.icF rfl cc ?_
        refine UP.stp 2 (i1 := 41) (L1 := [some (.ref 10), some (.ref 109), some (.int (Int32.ofNat i3)), some (.int v4)]) (st1 := [.int 1, .int (Int32.ofNat i3), .ref 11]) (s1 := a3) rfl ?_
        exact kk
      subst e5
      exact kk
    · skip
      refine UP.icF rfl cc ?_
      refine UP.stp 2 (i1 := 41) (L1 := [some (.ref 10), some (.ref 109), some (.int (Int32.ofNat i3)), some (.int v4)]) (st1 := [.int 0, .int (Int32.ofNat i3), .ref 11]) (s1 := a3) rfl ?_
      exact kk
    refine UP.ast (e := i3) rfl rfl (by omega) ?_
    show UP m_X0_takeCrew 42 [some (.ref 10), some (.ref 109), some (.int (Int32.ofNat i3)), some (.int v4)] [] (uset a3 11 i3 v6) (Qv (F_takeCrew s))
    refine UP.stp 10 (i1 := 52) (L1 := [some (.ref 10), some (.ref 109), some (.int (Int32.ofNat i3)), some (.int v4)]) (st1 := [.int ((3 * (Int32.ofNat i3)) + 1), .ref 110, .int (Int32.ofNat i3), .ref 12]) (s1 := (uset a3 11 i3 v6)) rfl ?_
    refine UP.ald (e := 3 * i3 + 1) rfl (ofn_add (ofn_mul rfl rfl) rfl) (by omega) ?_
    show UP m_X0_takeCrew 53 [some (.ref 10), some (.ref 109), some (.int (Int32.ofNat i3)), some (.int v4)] [.int (a3 110 (3 * i3 + 1)), .int (Int32.ofNat i3), .ref 12] (uset a3 11 i3 v6) (Qv (F_takeCrew s))
    refine UP.stp 2 (i1 := 55) (L1 := [some (.ref 10), some (.ref 109), some (.int (Int32.ofNat i3)), some (.int v4)]) (st1 := [.int ((a3 110 (3 * i3 + 1)) - 48), .int (Int32.ofNat i3), .ref 12]) (s1 := (uset a3 11 i3 v6)) rfl ?_
    refine nm (G := fun v7 => UP m_X0_takeCrew 55 [some (.ref 10), some (.ref 109), some (.int (Int32.ofNat i3)), some (.int v4)] [.int v7, .int (Int32.ofNat i3), .ref 12] (uset a3 11 i3 v6) (Qv (F_takeCrew s))) ((a3 110 (3 * i3 + 1)) - 48) (fun v7 e7 => ?_)
    refine UP.ast (e := i3) rfl rfl (by omega) ?_
    show UP m_X0_takeCrew 56 [some (.ref 10), some (.ref 109), some (.int (Int32.ofNat i3)), some (.int v4)] [] (uset (uset a3 11 i3 v6) 12 i3 v7) (Qv (F_takeCrew s))
    refine UP.stp 2 (i1 := 16) (L1 := [some (.ref 10), some (.ref 109), some (.int ((Int32.ofNat i3) + 1)), some (.int v4)]) (st1 := []) (s1 := (uset (uset a3 11 i3 v6) 12 i3 v7)) rfl ?_
    subst e7 e6 e4
    rw [ofn_s]
    exact kk _
  intro u3_3
  refine UP.stp 3 (i1 := 19) (L1 := [some (.ref 10), some (.ref 109), some (.int (Int32.ofNat (((uset s 10 0 v2) 10 0).toNatClampNeg))), u3_3]) (st1 := [.int (z3 10 0), .int (Int32.ofNat (((uset s 10 0 v2) 10 0).toNatClampNeg))]) (s1 := z3) rfl ?_
  refine UP.icT rfl (by rw [(g3 10 0 rfl)]; exact ge_T _) ?_
  exact UP.ret (r := none) rfl ⟨by subst e3 e2; rfl, by subst e3 e2; rfl⟩
def W_takeRates : List (Nat × Nat × Option Nat) := [(13, 13, none)]
def B_takeRates_12 (v2 : Int32) (i3 : Nat) (a3 : SG) : SG := let v4 := bif m_cmp .ge (Int32.ofNat i3) v2 then (2 : Int32) else (a3 112 i3) - 48; (uset a3 13 i3 v4)
theorem fr_B_takeRates_12 (v2 : Int32) (i3 : Nat) (a3 : SG)  (hi3 : i3 < 24) : Fr W_takeRates a3 ((B_takeRates_12 v2) i3 a3) := by dsimp only [B_takeRates_12]; exact (let v4 : Int32 := bif m_cmp .ge (Int32.ofNat i3) v2 then (2 : Int32) else (a3 112 i3) - 48; (Fr.uset (s1 := a3) (a := 13) (j := i3) (x := v4) (by rfl) (Fr.rf _ _)))
def F_takeRates (s : SG)  : SG := let v2 := bif m_cmp .ne (F_signFault_1 s) (-1) then (0 : Int32) else s 111 1; let z3 := itr (B_takeRates_12 v2) 0 24 s; z3
theorem fr_takeRates (s : SG)   : Fr W_takeRates s (F_takeRates s) := by dsimp only [F_takeRates]; exact (let v2 : Int32 := bif m_cmp .ne (F_signFault_1 s) (-1) then (0 : Int32) else s 111 1; (frItrB (W := W_takeRates) (m := (fun x : SG => x)) 24 (fun i a h => Fr.wk (W2 := W_takeRates) (fr_B_takeRates_12 v2 i a  h) (by rfl)) _ _ _ (by omega) (Fr.rf _ _)))
theorem ux_takeRates (s : SG)   : UP m_X0_takeRates 0 (m_ent 4 [.ref 10, .ref 111]) [] s (Qv (F_takeRates s)) := by
  refine UP.stp 2 (i1 := 2) (L1 := [some (.ref 10), some (.ref 111), none, none]) (st1 := [.int 1, .ref 111]) (s1 := s) rfl ?_
  refine UP.cI (M1 := m_X4_signFault) (as := [.ref 111, .int 1]) (rest := []) (T := F_signFault_1 s ) rfl rfl (ux_signFault_1 s) ?_
  refine UP.stp 1 (i1 := 4) (L1 := [some (.ref 10), some (.ref 111), none, none]) (st1 := [.int (-1), .int (F_signFault_1 s)]) (s1 := s) rfl ?_
  refine mrg (m_cmp .ne (F_signFault_1 s) (-1)) (0 : Int32) (s 111 1) (fun v2 : Int32 => UP m_X0_takeRates 9 [some (.ref 10), some (.ref 111), none, none] [.int v2] s (Qv (F_takeRates s))) (fun cc kk => ?_) (fun cc kk => ?_) (fun v2 e2 => ?_)
  · skip
    refine UP.icT rfl cc ?_
    refine UP.stp 1 (i1 := 9) (L1 := [some (.ref 10), some (.ref 111), none, none]) (st1 := [.int 0]) (s1 := s) rfl ?_
    exact kk
  · skip
    refine UP.icF rfl cc ?_
    refine UP.stp 3 (i1 := 9) (L1 := [some (.ref 10), some (.ref 111), none, none]) (st1 := [.int (s 111 1)]) (s1 := s) rfl ?_
    exact kk
  refine UP.stp 3 (i1 := 12) (L1 := [some (.ref 10), some (.ref 111), some (.int v2), some (.int 0)]) (st1 := []) (s1 := s) rfl ?_
  refine lp (fun (i3 : Nat) (a3 : SG) => UP m_X0_takeRates 12 [some (.ref 10), some (.ref 111), some (.int v2), some (.int (Int32.ofNat i3))] [] a3 (Qv (F_takeRates s))) (fun (_ : Nat) (a3 : SG) => Fr W_takeRates s a3) (B_takeRates_12 v2) (24) (fun i3 a3 hi3 g3 => g3.tr (fr_B_takeRates_12 v2 i3 a3 hi3)) (fun i3 a3 hi3 g3 kk => ?_) 24 (0) s (by omega) (Fr.rf _ _) (fun z3 e3 g3 => ?_)
  · skip
    refine UP.stp 2 (i1 := 14) (L1 := [some (.ref 10), some (.ref 111), some (.int v2), some (.int (Int32.ofNat i3))]) (st1 := [.int 24, .int (Int32.ofNat i3)]) (s1 := a3) rfl ?_
    refine UP.icF rfl (ge_F (show i3 < (24 : Int32).toNatClampNeg from hi3)) ?_
    refine UP.stp 5 (i1 := 20) (L1 := [some (.ref 10), some (.ref 111), some (.int v2), some (.int (Int32.ofNat i3))]) (st1 := [.int v2, .int (Int32.ofNat i3), .int (Int32.ofNat i3), .ref 13]) (s1 := a3) rfl ?_
    refine mrg (m_cmp .ge (Int32.ofNat i3) v2) (2 : Int32) ((a3 112 i3) - 48) (fun v4 : Int32 => UP m_X0_takeRates 29 [some (.ref 10), some (.ref 111), some (.int v2), some (.int (Int32.ofNat i3))] [.int v4, .int (Int32.ofNat i3), .ref 13] a3 (Qv (F_takeRates s))) (fun cc kk => ?_) (fun cc kk => ?_) (fun v4 e4 => ?_)
    · skip
      refine UP.icT rfl cc ?_
      refine UP.stp 1 (i1 := 29) (L1 := [some (.ref 10), some (.ref 111), some (.int v2), some (.int (Int32.ofNat i3))]) (st1 := [.int 2, .int (Int32.ofNat i3), .ref 13]) (s1 := a3) rfl ?_
      exact kk
    · skip
      refine UP.icF rfl cc ?_
      refine UP.stp 3 (i1 := 24) (L1 := [some (.ref 10), some (.ref 111), some (.int v2), some (.int (Int32.ofNat i3))]) (st1 := [.int (Int32.ofNat i3), .ref 112, .int (Int32.ofNat i3), .ref 13]) (s1 := a3) rfl ?_
      refine UP.ald (e := i3) rfl rfl (by omega) ?_
      show UP m_X0_takeRates 25 [some (.ref 10), some (.ref 111), some (.int v2), some (.int (Int32.ofNat i3))] [.int (a3 112 i3), .int (Int32.ofNat i3), .ref 13] a3 (Qv (F_takeRates s))
      refine UP.stp 3 (i1 := 29) (L1 := [some (.ref 10), some (.ref 111), some (.int v2), some (.int (Int32.ofNat i3))]) (st1 := [.int ((a3 112 i3) - 48), .int (Int32.ofNat i3), .ref 13]) (s1 := a3) rfl ?_
      exact kk
    refine UP.ast (e := i3) rfl rfl (by omega) ?_
    show UP m_X0_takeRates 30 [some (.ref 10), some (.ref 111), some (.int v2), some (.int (Int32.ofNat i3))] [] (uset a3 13 i3 v4) (Qv (F_takeRates s))
    refine UP.stp 2 (i1 := 12) (L1 := [some (.ref 10), some (.ref 111), some (.int v2), some (.int ((Int32.ofNat i3) + 1))]) (st1 := []) (s1 := (uset a3 13 i3 v4)) rfl ?_
    subst e4
    rw [ofn_s]
    exact kk
  refine UP.stp 2 (i1 := 14) (L1 := [some (.ref 10), some (.ref 111), some (.int v2), some (.int (Int32.ofNat 24))]) (st1 := [.int 24, .int (Int32.ofNat 24)]) (s1 := z3) rfl ?_
  refine UP.icT rfl (ge_T (24 : Int32)) ?_
  exact UP.ret (r := none) rfl ⟨by subst e3 e2; rfl, by subst e3 e2; rfl⟩
def W_takeRudder : List (Nat × Nat × Option Nat) := [(14, 14, none)]
def B_takeRudder_12 (v2 : Int32) (i3 : Nat) (a3 : SG) : SG := let v4 := bif m_cmp .ge (Int32.ofNat i3) v2 then (45 : Int32) else a3 114 i3; let v6 := bif m_cmp .ne v4 108 then (bif m_cmp .ne v4 114 then (0 : Int32) else (2 : Int32)) else (1 : Int32); (uset a3 14 i3 v6)
theorem fr_B_takeRudder_12 (v2 : Int32) (i3 : Nat) (a3 : SG)  (hi3 : i3 < 24) : Fr W_takeRudder a3 ((B_takeRudder_12 v2) i3 a3) := by dsimp only [B_takeRudder_12]; exact (let v4 : Int32 := bif m_cmp .ge (Int32.ofNat i3) v2 then (45 : Int32) else a3 114 i3; (let v6 : Int32 := bif m_cmp .ne v4 108 then (bif m_cmp .ne v4 114 then (0 : Int32) else (2 : Int32)) else (1 : Int32); (Fr.uset (s1 := a3) (a := 14) (j := i3) (x := v6) (by rfl) (Fr.rf _ _))))
def F_takeRudder (s : SG)  : SG := let v2 := bif m_cmp .ne (F_signFault_2 s) (-1) then (0 : Int32) else s 113 1; let z3 := itr (B_takeRudder_12 v2) 0 24 s; z3
theorem fr_takeRudder (s : SG)   : Fr W_takeRudder s (F_takeRudder s) := by dsimp only [F_takeRudder]; exact (let v2 : Int32 := bif m_cmp .ne (F_signFault_2 s) (-1) then (0 : Int32) else s 113 1; (frItrB (W := W_takeRudder) (m := (fun x : SG => x)) 24 (fun i a h => Fr.wk (W2 := W_takeRudder) (fr_B_takeRudder_12 v2 i a  h) (by rfl)) _ _ _ (by omega) (Fr.rf _ _)))
theorem ux_takeRudder (s : SG)   : UP m_X0_takeRudder 0 (m_ent 5 [.ref 10, .ref 113]) [] s (Qv (F_takeRudder s)) := by
  refine UP.stp 2 (i1 := 2) (L1 := [some (.ref 10), some (.ref 113), none, none, none]) (st1 := [.int 0, .ref 113]) (s1 := s) rfl ?_
  refine UP.cI (M1 := m_X4_signFault) (as := [.ref 113, .int 0]) (rest := []) (T := F_signFault_2 s ) rfl rfl (ux_signFault_2 s) ?_
  refine UP.stp 1 (i1 := 4) (L1 := [some (.ref 10), some (.ref 113), none, none, none]) (st1 := [.int (-1), .int (F_signFault_2 s)]) (s1 := s) rfl ?_
  refine mrg (m_cmp .ne (F_signFault_2 s) (-1)) (0 : Int32) (s 113 1) (fun v2 : Int32 => UP m_X0_takeRudder 9 [some (.ref 10), some (.ref 113), none, none, none] [.int v2] s (Qv (F_takeRudder s))) (fun cc kk => ?_) (fun cc kk => ?_) (fun v2 e2 => ?_)
  · skip
    refine UP.icT rfl cc ?_
    refine UP.stp 1 (i1 := 9) (L1 := [some (.ref 10), some (.ref 113), none, none, none]) (st1 := [.int 0]) (s1 := s) rfl ?_
    exact kk
  · skip
    refine UP.icF rfl cc ?_
    refine UP.stp 3 (i1 := 9) (L1 := [some (.ref 10), some (.ref 113), none, none, none]) (st1 := [.int (s 113 1)]) (s1 := s) rfl ?_
    exact kk
  refine UP.stp 3 (i1 := 12) (L1 := [some (.ref 10), some (.ref 113), some (.int v2), some (.int 0), none]) (st1 := []) (s1 := s) rfl ?_
  refine lp (fun (i3 : Nat) (a3 : SG) => ∀ (u3_4 : Option Value), UP m_X0_takeRudder 12 [some (.ref 10), some (.ref 113), some (.int v2), some (.int (Int32.ofNat i3)), u3_4] [] a3 (Qv (F_takeRudder s))) (fun (_ : Nat) (a3 : SG) => Fr W_takeRudder s a3) (B_takeRudder_12 v2) (24) (fun i3 a3 hi3 g3 => g3.tr (fr_B_takeRudder_12 v2 i3 a3 hi3)) (fun i3 a3 hi3 g3 kk => ?_) 24 (0) s (by omega) (Fr.rf _ _) (fun z3 e3 g3 => ?_) none
  · skip
    intro u3_4
    refine UP.stp 2 (i1 := 14) (L1 := [some (.ref 10), some (.ref 113), some (.int v2), some (.int (Int32.ofNat i3)), u3_4]) (st1 := [.int 24, .int (Int32.ofNat i3)]) (s1 := a3) rfl ?_
    refine UP.icF rfl (ge_F (show i3 < (24 : Int32).toNatClampNeg from hi3)) ?_
    refine UP.stp 2 (i1 := 17) (L1 := [some (.ref 10), some (.ref 113), some (.int v2), some (.int (Int32.ofNat i3)), u3_4]) (st1 := [.int v2, .int (Int32.ofNat i3)]) (s1 := a3) rfl ?_
    refine mrg (m_cmp .ge (Int32.ofNat i3) v2) (45 : Int32) (a3 114 i3) (fun v4 : Int32 => UP m_X0_takeRudder 24 [some (.ref 10), some (.ref 113), some (.int v2), some (.int (Int32.ofNat i3)), u3_4] [.int v4] a3 (Qv (F_takeRudder s))) (fun cc kk => ?_) (fun cc kk => ?_) (fun v4 e4 => ?_)
    · skip
      refine UP.icT rfl cc ?_
      refine UP.stp 1 (i1 := 24) (L1 := [some (.ref 10), some (.ref 113), some (.int v2), some (.int (Int32.ofNat i3)), u3_4]) (st1 := [.int 45]) (s1 := a3) rfl ?_
      exact kk
    · skip
      refine UP.icF rfl cc ?_
      refine UP.stp 3 (i1 := 21) (L1 := [some (.ref 10), some (.ref 113), some (.int v2), some (.int (Int32.ofNat i3)), u3_4]) (st1 := [.int (Int32.ofNat i3), .ref 114]) (s1 := a3) rfl ?_
      refine UP.ald (e := i3) rfl rfl (by omega) ?_
      show UP m_X0_takeRudder 22 [some (.ref 10), some (.ref 113), some (.int v2), some (.int (Int32.ofNat i3)), u3_4] [.int (a3 114 i3)] a3 (Qv (F_takeRudder s))
      refine UP.stp 1 (i1 := 24) (L1 := [some (.ref 10), some (.ref 113), some (.int v2), some (.int (Int32.ofNat i3)), u3_4]) (st1 := [.int (a3 114 i3)]) (s1 := a3) rfl ?_
      exact kk
    refine UP.stp 6 (i1 := 30) (L1 := [some (.ref 10), some (.ref 113), some (.int v2), some (.int (Int32.ofNat i3)), some (.int v4)]) (st1 := [.int 108, .int v4, .int (Int32.ofNat i3), .ref 14]) (s1 := a3) rfl ?_
    refine mrg (m_cmp .ne v4 108) (bif m_cmp .ne v4 114 then (0 : Int32) else (2 : Int32)) (1 : Int32) (fun v6 : Int32 => UP m_X0_takeRudder 39 [some (.ref 10), some (.ref 113), some (.int v2), some (.int (Int32.ofNat i3)), some (.int v4)] [.int v6, .int (Int32.ofNat i3), .ref 14] a3 (Qv (F_takeRudder s))) (fun cc kk => ?_) (fun cc kk => ?_) (fun v6 e6 => ?_)
    · skip
      refine UP.icT rfl cc ?_
      refine UP.stp 2 (i1 := 35) (L1 := [some (.ref 10), some (.ref 113), some (.int v2), some (.int (Int32.ofNat i3)), some (.int v4)]) (st1 := [.int 114, .int v4, .int (Int32.ofNat i3), .ref 14]) (s1 := a3) rfl ?_
      refine mrg (m_cmp .ne v4 114) (0 : Int32) (2 : Int32) (fun v5 : Int32 => UP m_X0_takeRudder 39 [some (.ref 10), some (.ref 113), some (.int v2), some (.int (Int32.ofNat i3)), some (.int v4)] [.int v5, .int (Int32.ofNat i3), .ref 14] a3 (Qv (F_takeRudder s))) (fun cc kk => ?_) (fun cc kk => ?_) (fun v5 e5 => ?_)
      · skip
        refine UP.icT rfl cc ?_
        refine UP.stp 1 (i1 := 39) (L1 := [some (.ref 10), some (.ref 113), some (.int v2), some (.int (Int32.ofNat i3)), some (.int v4)]) (st1 := [.int 0, .int (Int32.ofNat i3), .ref 14]) (s1 := a3) rfl ?_
        exact kk
      · skip
        refine UP.icF rfl cc ?_
        refine UP.stp 2 (i1 := 39) (L1 := [some (.ref 10), some (.ref 113), some (.int v2), some (.int (Int32.ofNat i3)), some (.int v4)]) (st1 := [.int 2, .int (Int32.ofNat i3), .ref 14]) (s1 := a3) rfl ?_
        exact kk
      subst e5
      exact kk
    · skip
      refine UP.icF rfl cc ?_
      refine UP.stp 2 (i1 := 39) (L1 := [some (.ref 10), some (.ref 113), some (.int v2), some (.int (Int32.ofNat i3)), some (.int v4)]) (st1 := [.int 1, .int (Int32.ofNat i3), .ref 14]) (s1 := a3) rfl ?_
      exact kk
    refine UP.ast (e := i3) rfl rfl (by omega) ?_
    show UP m_X0_takeRudder 40 [some (.ref 10), some (.ref 113), some (.int v2), some (.int (Int32.ofNat i3)), some (.int v4)] [] (uset a3 14 i3 v6) (Qv (F_takeRudder s))
    refine UP.stp 2 (i1 := 12) (L1 := [some (.ref 10), some (.ref 113), some (.int v2), some (.int ((Int32.ofNat i3) + 1)), some (.int v4)]) (st1 := []) (s1 := (uset a3 14 i3 v6)) rfl ?_
    subst e6 e4
    rw [ofn_s]
    exact kk _
  intro u3_4
  refine UP.stp 2 (i1 := 14) (L1 := [some (.ref 10), some (.ref 113), some (.int v2), some (.int (Int32.ofNat 24)), u3_4]) (st1 := [.int 24, .int (Int32.ofNat 24)]) (s1 := z3) rfl ?_
  refine UP.icT rfl (ge_T (24 : Int32)) ?_
  exact UP.ret (r := none) rfl ⟨by subst e3 e2; rfl, by subst e3 e2; rfl⟩
def W_retell_0 : List (Nat × Nat × Option Nat) := [(10, 10, some 0), (11, 14, none), (0, 0, some 12), (0, 0, some 13), (109, 114, none)]
def F_retell_0 (s : SG)  : SG := let z1 := F_takeCrew s ; let z2 := F_mark z1 ; z2
theorem fr_retell_0 (s : SG)   : Fr W_retell_0 s (F_retell_0 s) := by dsimp only [F_retell_0]; exact (let z1 : SG := F_takeCrew s ; (Fr.tr (s1 := z1) (Fr.tr (s1 := s) (Fr.rf _ _) (Fr.wk (W2 := W_retell_0) (fr_takeCrew s ) (by rfl))) (Fr.wk (W2 := W_retell_0) (fr_mark z1 ) (by rfl))))
theorem ux_retell_0 (s : SG)   : UP m_X6_retell 0 (m_ent 2 [.ref 0, .int 0]) [] s (Qv (F_retell_0 s)) := by
  refine UP.stp 7 (i1 := 7) (L1 := [some (.ref 0), some (.int 0)]) (st1 := [.int 0, .ref 1, .ref 10]) (s1 := s) rfl ?_
  refine UP.aald (e := 0) (r := 109) rfl rfl (by omega) rfl ?_
  refine UP.cV (M1 := m_X0_takeCrew) (as := [.ref 10, .ref 109]) (rest := []) (T := F_takeCrew s ) rfl rfl (ux_takeCrew s ) (fun z1 e1 => ?_)
  refine UP.stp 2 (i1 := 29) (L1 := [some (.ref 0), some (.int 0)]) (st1 := [.ref 0]) (s1 := z1) rfl ?_
  refine UP.cV (M1 := m_X6_markChanged) (as := [.ref 0]) (rest := []) (T := F_mark z1 ) rfl rfl (ux_mark z1 ) (fun z2 e2 => ?_)
  exact UP.ret (r := none) rfl ⟨by subst e2 e1; rfl, by subst e2 e1; rfl⟩
