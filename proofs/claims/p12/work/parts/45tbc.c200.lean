def W_isBelow : List (Nat × Nat × Option Nat) := []
def F_isBelow (s : SG) (v : Int32) (n : Int32) : Int32 := let v2 := bif m_cmp .lt v 0 then (0 : Int32) else (bif m_cmp .ge v n then (0 : Int32) else (1 : Int32)); v2
theorem ux_isBelow (s : SG) (v : Int32) (n : Int32)  : UP m_X6_isBelow 0 (m_ent 2 [.int v, .int n]) [] s (Qi s (F_isBelow s v n)) := by
  refine UP.stp 1 (i1 := 1) (L1 := [some (.int v), some (.int n)]) (st1 := [.int v]) (s1 := s) rfl ?_
  refine mrg (m_cmp .lt v 0) (0 : Int32) (bif m_cmp .ge v n then (0 : Int32) else (1 : Int32)) (fun v2 : Int32 => UP m_X6_isBelow 8 [some (.int v), some (.int n)] [.int v2] s (Qi s (F_isBelow s v n))) (fun cc kk => ?_) (fun cc kk => ?_) (fun v2 e2 => ?_)
  · skip
    refine UP.ifT rfl cc ?_
    refine UP.stp 1 (i1 := 8) (L1 := [some (.int v), some (.int n)]) (st1 := [.int 0]) (s1 := s) rfl ?_
    exact kk
  · skip
    refine UP.ifF rfl cc ?_
    refine UP.stp 2 (i1 := 4) (L1 := [some (.int v), some (.int n)]) (st1 := [.int n, .int v]) (s1 := s) rfl ?_
    refine mrg (m_cmp .ge v n) (0 : Int32) (1 : Int32) (fun v1 : Int32 => UP m_X6_isBelow 8 [some (.int v), some (.int n)] [.int v1] s (Qi s (F_isBelow s v n))) (fun cc kk => ?_) (fun cc kk => ?_) (fun v1 e1 => ?_)
    · skip
      refine UP.icT rfl cc ?_
      refine UP.stp 1 (i1 := 8) (L1 := [some (.int v), some (.int n)]) (st1 := [.int 0]) (s1 := s) rfl ?_
      exact kk
    · skip
      refine UP.icF rfl cc ?_
      refine UP.stp 2 (i1 := 8) (L1 := [some (.int v), some (.int n)]) (st1 := [.int 1]) (s1 := s) rfl ?_
      exact kk
    subst e1
    exact kk
  exact UP.ret (r := some (.int v2)) rfl ⟨by subst e2; rfl, by subst e2; rfl⟩
def W_hasBit : List (Nat × Nat × Option Nat) := []
def F_hasBit (s : SG) (b : Int32) (k : Int32) : Int32 := let v1 := bif m_cmp .ne ((b >>> (k &&& 31)) &&& 1) 1 then (0 : Int32) else (1 : Int32); v1
theorem ux_hasBit (s : SG) (b : Int32) (k : Int32)  : UP m_X6_hasBit 0 (m_ent 2 [.int b, .int k]) [] s (Qi s (F_hasBit s b k)) := by
  refine UP.stp 6 (i1 := 6) (L1 := [some (.int b), some (.int k)]) (st1 := [.int 1, .int ((b >>> (k &&& 31)) &&& 1)]) (s1 := s) rfl ?_
  refine mrg (m_cmp .ne ((b >>> (k &&& 31)) &&& 1) 1) (0 : Int32) (1 : Int32) (fun v1 : Int32 => UP m_X6_hasBit 10 [some (.int b), some (.int k)] [.int v1] s (Qi s (F_hasBit s b k))) (fun cc kk => ?_) (fun cc kk => ?_) (fun v1 e1 => ?_)
  · skip
    refine UP.icT rfl cc ?_
    refine UP.stp 1 (i1 := 10) (L1 := [some (.int b), some (.int k)]) (st1 := [.int 0]) (s1 := s) rfl ?_
    exact kk
  · skip
    refine UP.icF rfl cc ?_
    refine UP.stp 2 (i1 := 10) (L1 := [some (.int b), some (.int k)]) (st1 := [.int 1]) (s1 := s) rfl ?_
    exact kk
  exact UP.ret (r := some (.int v1)) rfl ⟨by subst e1; rfl, by subst e1; rfl⟩
def W_cisRower : List (Nat × Nat × Option Nat) := []
def F_cisRower (s : SG) (k : Int32) : Int32 := F_isBelow s k (s 10 0)
theorem ux_cisRower (s : SG) (k : Int32)  : UP m_X6_isRower 0 (m_ent 2 [.ref 0, .int k]) [] s (Qi s (F_cisRower s k)) := by
  refine UP.stp 4 (i1 := 4) (L1 := [some (.ref 0), some (.int k)]) (st1 := [.int (s 10 0), .int k]) (s1 := s) rfl ?_
  refine UP.cI (M1 := m_X6_isBelow) (as := [.int k, .int (s 10 0)]) (rest := []) (T := F_isBelow s k (s 10 0)) rfl rfl (ux_isBelow s k (s 10 0)) ?_
  exact UP.ret (r := some (.int (F_isBelow s k (s 10 0)))) rfl ⟨by rfl, by rfl⟩
def W_find : List (Nat × Nat × Option Nat) := [(0, 0, some 4)]
def F_find (s : SG) (number : Int32) : Int32 × SG := ((-10) - number, (uset s 0 4 number))
theorem fr_find (s : SG) (number : Int32)  : Fr W_find s (F_find s number).2 := by dsimp only [F_find]; exact (Fr.uset (s1 := s) (a := 0) (j := 4) (x := number) (by rfl) (Fr.rf _ _))
theorem ux_find (s : SG) (number : Int32)  : UP m_X6_find 0 (m_ent 2 [.ref 0, .int number]) [] s (Qb (F_find s number)) := by
  refine UP.stp 6 (i1 := 6) (L1 := [some (.ref 0), some (.int number)]) (st1 := [.int ((-10) - number)]) (s1 := (uset s 0 4 number)) rfl ?_
  exact UP.ret (r := some (.int ((-10) - number))) rfl ⟨by rfl, by rfl⟩
def W_mark : List (Nat × Nat × Option Nat) := [(0, 0, some 12), (0, 0, some 13)]
def F_mark (s : SG)  : SG := (uset (uset s 0 12 1) 0 13 1)
theorem fr_mark (s : SG)   : Fr W_mark s (F_mark s) := by dsimp only [F_mark]; exact (Fr.uset (s1 := (uset s 0 12 1)) (a := 0) (j := 13) (x := 1) (by rfl) (Fr.uset (s1 := s) (a := 0) (j := 12) (x := 1) (by rfl) (Fr.rf _ _)))
theorem ux_mark (s : SG)   : UP m_X6_markChanged 0 (m_ent 1 [.ref 0]) [] s (Qv (F_mark s)) := by
  refine UP.stp 6 (i1 := 6) (L1 := [some (.ref 0)]) (st1 := []) (s1 := (uset (uset s 0 12 1) 0 13 1)) rfl ?_
  exact UP.ret (r := none) rfl ⟨by rfl, by rfl⟩
def W_fitsCrew : List (Nat × Nat × Option Nat) := []
def F_fitsCrew (s : SG) (part : Int32) (b : Int32) : Int32 := bif m_cmp .ne part 0 then (let v6 := bif m_cmp .ne part 1 then (bif m_cmp .ne b 59 then (0 : Int32) else (1 : Int32)) else (bif m_cmp .lt b 49 then (0 : Int32) else (bif m_cmp .gt b 57 then (0 : Int32) else (1 : Int32))); v6) else (let v9 := bif m_cmp .eq b 115 then (1 : Int32) else (bif m_cmp .eq b 102 then (1 : Int32) else (bif m_cmp .ne b 108 then (0 : Int32) else (1 : Int32))); v9)
theorem ux_fitsCrew (s : SG) (part : Int32) (b : Int32)  : UP m_X4_fitsCrew 0 (m_ent 2 [.int part, .int b]) [] s (Qi s (F_fitsCrew s part b)) := by
  refine UP.stp 1 (i1 := 1) (L1 := [some (.int part), some (.int b)]) (st1 := [.int part]) (s1 := s) rfl ?_
  refine UP.spl (m_cmp .ne part 0) (let v6 := bif m_cmp .ne part 1 then (bif m_cmp .ne b 59 then (0 : Int32) else (1 : Int32)) else (bif m_cmp .lt b 49 then (0 : Int32) else (bif m_cmp .gt b 57 then (0 : Int32) else (1 : Int32))); v6) (let v9 := bif m_cmp .eq b 115 then (1 : Int32) else (bif m_cmp .eq b 102 then (1 : Int32) else (bif m_cmp .ne b 108 then (0 : Int32) else (1 : Int32))); v9) (by rfl) (fun cc => ?_) (fun cc => ?_)
  · skip
    refine UP.ifT rfl cc ?_
    refine UP.stp 2 (i1 := 17) (L1 := [some (.int part), some (.int b)]) (st1 := [.int 1, .int part]) (s1 := s) rfl ?_
    refine mrg (m_cmp .ne part 1) (bif m_cmp .ne b 59 then (0 : Int32) else (1 : Int32)) (bif m_cmp .lt b 49 then (0 : Int32) else (bif m_cmp .gt b 57 then (0 : Int32) else (1 : Int32))) (fun v6 : Int32 => UP m_X4_fitsCrew 34 [some (.int part), some (.int b)] [.int v6] s (Qi s (let v6 := bif m_cmp .ne part 1 then (bif m_cmp .ne b 59 then (0 : Int32) else (1 : Int32)) else (bif m_cmp .lt b 49 then (0 : Int32) else (bif m_cmp .gt b 57 then (0 : Int32) else (1 : Int32))); v6))) (fun cc kk => ?_) (fun cc kk => ?_) (fun v6 e6 => ?_)
    · skip
      refine UP.icT rfl cc ?_
      refine UP.stp 2 (i1 := 30) (L1 := [some (.int part), some (.int b)]) (st1 := [.int 59, .int b]) (s1 := s) rfl ?_
      refine mrg (m_cmp .ne b 59) (0 : Int32) (1 : Int32) (fun v3 : Int32 => UP m_X4_fitsCrew 34 [some (.int part), some (.int b)] [.int v3] s (Qi s (let v6 := bif m_cmp .ne part 1 then (bif m_cmp .ne b 59 then (0 : Int32) else (1 : Int32)) else (bif m_cmp .lt b 49 then (0 : Int32) else (bif m_cmp .gt b 57 then (0 : Int32) else (1 : Int32))); v6))) (fun cc kk => ?_) (fun cc kk => ?_) (fun v3 e3 => ?_)
      · skip
        refine UP.icT rfl cc ?_
        refine UP.stp 1 (i1 := 34) (L1 := [some (.int part), some (.int b)]) (st1 := [.int 0]) (s1 := s) rfl ?_
        exact kk
      · skip
        refine UP.icF rfl cc ?_
        refine UP.stp 2 (i1 := 34) (L1 := [some (.int part), some (.int b)]) (st1 := [.int 1]) (s1 := s) rfl ?_
        exact kk
      subst e3
      exact kk
    · skip
      refine UP.icF rfl cc ?_
      refine UP.stp 2 (i1 := 20) (L1 := [some (.int part), some (.int b)]) (st1 := [.int 49, .int b]) (s1 := s) rfl ?_
      refine mrg (m_cmp .lt b 49) (0 : Int32) (bif m_cmp .gt b 57 then (0 : Int32) else (1 : Int32)) (fun v5 : Int32 => UP m_X4_fitsCrew 34 [some (.int part), some (.int b)] [.int v5] s (Qi s (let v6 := bif m_cmp .ne part 1 then (bif m_cmp .ne b 59 then (0 : Int32) else (1 : Int32)) else (bif m_cmp .lt b 49 then (0 : Int32) else (bif m_cmp .gt b 57 then (0 : Int32) else (1 : Int32))); v6))) (fun cc kk => ?_) (fun cc kk => ?_) (fun v5 e5 => ?_)
      · skip
        refine UP.icT rfl cc ?_
        refine UP.stp 2 (i1 := 34) (L1 := [some (.int part), some (.int b)]) (st1 := [.int 0]) (s1 := s) rfl ?_
        exact kk
      · skip
        refine UP.icF rfl cc ?_
        refine UP.stp 2 (i1 := 23) (L1 := [some (.int part), some (.int b)]) (st1 := [.int 57, .int b]) (s1 := s) rfl ?_
        refine mrg (m_cmp .gt b 57) (0 : Int32) (1 : Int32) (fun v4 : Int32 => UP m_X4_fitsCrew 34 [some (.int part), some (.int b)] [.int v4] s (Qi s (let v6 := bif m_cmp .ne part 1 then (bif m_cmp .ne b 59 then (0 : Int32) else (1 : Int32)) else (bif m_cmp .lt b 49 then (0 : Int32) else (bif m_cmp .gt b 57 then (0 : Int32) else (1 : Int32))); v6))) (fun cc kk => ?_) (fun cc kk => ?_) (fun v4 e4 => ?_)
        · skip
          refine UP.icT rfl cc ?_
          refine UP.stp 2 (i1 := 34) (L1 := [some (.int part), some (.int b)]) (st1 := [.int 0]) (s1 := s) rfl ?_
          exact kk
        · skip
          refine UP.icF rfl cc ?_
          refine UP.stp 2 (i1 := 34) (L1 := [some (.int part), some (.int b)]) (st1 := [.int 1]) (s1 := s) rfl ?_
          exact kk
        subst e4
        exact kk
      subst e5
      exact kk
    exact UP.ret (r := some (.int v6)) rfl ⟨by subst e6; rfl, by subst e6; rfl⟩
  · skip
    refine UP.ifF rfl cc ?_
    refine UP.stp 2 (i1 := 4) (L1 := [some (.int part), some (.int b)]) (st1 := [.int 115, .int b]) (s1 := s) rfl ?_
    refine mrg (m_cmp .eq b 115) (1 : Int32) (bif m_cmp .eq b 102 then (1 : Int32) else (bif m_cmp .ne b 108 then (0 : Int32) else (1 : Int32))) (fun v9 : Int32 => UP m_X4_fitsCrew 14 [some (.int part), some (.int b)] [.int v9] s (Qi s (let v9 := bif m_cmp .eq b 115 then (1 : Int32) else (bif m_cmp .eq b 102 then (1 : Int32) else (bif m_cmp .ne b 108 then (0 : Int32) else (1 : Int32))); v9))) (fun cc kk => ?_) (fun cc kk => ?_) (fun v9 e9 => ?_)
    · skip
      refine UP.icT rfl cc ?_
      refine UP.stp 2 (i1 := 14) (L1 := [some (.int part), some (.int b)]) (st1 := [.int 1]) (s1 := s) rfl ?_
      exact kk
    · skip
      refine UP.icF rfl cc ?_
      refine UP.stp 2 (i1 := 7) (L1 := [some (.int part), some (.int b)]) (st1 := [.int 102, .int b]) (s1 := s) rfl ?_
      refine mrg (m_cmp .eq b 102) (1 : Int32) (bif m_cmp .ne b 108 then (0 : Int32) else (1 : Int32)) (fun v8 : Int32 => UP m_X4_fitsCrew 14 [some (.int part), some (.int b)] [.int v8] s (Qi s (let v9 := bif m_cmp .eq b 115 then (1 : Int32) else (bif m_cmp .eq b 102 then (1 : Int32) else (bif m_cmp .ne b 108 then (0 : Int32) else (1 : Int32))); v9))) (fun cc kk => ?_) (fun cc kk => ?_) (fun v8 e8 => ?_)
      · skip
        refine UP.icT rfl cc ?_
        refine UP.stp 2 (i1 := 14) (L1 := [some (.int part), some (.int b)]) (st1 := [.int 1]) (s1 := s) rfl ?_
        exact kk
      · skip
        refine UP.icF rfl cc ?_
        refine UP.stp 2 (i1 := 10) (L1 := [some (.int part), some (.int b)]) (st1 := [.int 108, .int b]) (s1 := s) rfl ?_
        refine mrg (m_cmp .ne b 108) (0 : Int32) (1 : Int32) (fun v7 : Int32 => UP m_X4_fitsCrew 14 [some (.int part), some (.int b)] [.int v7] s (Qi s (let v9 := bif m_cmp .eq b 115 then (1 : Int32) else (bif m_cmp .eq b 102 then (1 : Int32) else (bif m_cmp .ne b 108 then (0 : Int32) else (1 : Int32))); v9))) (fun cc kk => ?_) (fun cc kk => ?_) (fun v7 e7 => ?_)
        · skip
          refine UP.icT rfl cc ?_
          refine UP.stp 1 (i1 := 14) (L1 := [some (.int part), some (.int b)]) (st1 := [.int 0]) (s1 := s) rfl ?_
          exact kk
        · skip
          refine UP.icF rfl cc ?_
          refine UP.stp 2 (i1 := 14) (L1 := [some (.int part), some (.int b)]) (st1 := [.int 1]) (s1 := s) rfl ?_
          exact kk
        subst e7
        exact kk
      subst e8
      exact kk
    exact UP.ret (r := some (.int v9)) rfl ⟨by subst e9; rfl, by subst e9; rfl⟩
def W_crewFault : List (Nat × Nat × Option Nat) := []
def B_crewFault_2 (s : SG) (i1 : Nat) (a1 : Unit) : (Unit) ⊕ (Int32) := bif m_cmp .ne (F_fitsCrew s ((Int32.ofNat i1) - (Int32.ofNat i1) / 3 * 3) (s 110 i1)) 0 then (.inl ()) else (.inr (Int32.ofNat i1))
def F_crewFault (s : SG)  : Int32 := Sum.elim (fun z1 : Unit => let v5 := bif m_cmp .eq (s 109 1) 0 then (-1 : Int32) else (bif m_cmp .ne ((s 109 1) - (s 109 1) / 3 * 3) 2 then s 109 1 else (-1 : Int32)); v5) (fun x : Nat × (Int32) => x.2) (itx (B_crewFault_2 s) 0 ((s 109 1).toNatClampNeg) ())
theorem ux_crewFault (s : SG)   : UP m_X4_crewFault 0 (m_ent 2 [.ref 109]) [] s (Qi s (F_crewFault s)) := by
  refine UP.stp 2 (i1 := 2) (L1 := [some (.ref 109), some (.int 0)]) (st1 := []) (s1 := s) rfl ?_
  refine lpx (fun (i1 : Nat) (a1 : Unit) => UP m_X4_crewFault 2 [some (.ref 109), some (.int (Int32.ofNat i1))] [] s (Qi s (F_crewFault s))) (fun (_ : Nat) (b1 : Int32) => (F_crewFault s) = b1) (fun (_ : Nat) (a1 : Unit) => Fr W_crewFault s s) (B_crewFault_2 s) ((s 109 1).toNatClampNeg) (fun i1 a1 x1 hi1 g1 e => g1) (fun i1 a1 hi1 g1 kk => ?_) ((s 109 1).toNatClampNeg) (0) () (by omega) (Fr.rf _ _) (fun z1 e1 g1 => ?_) (fun i1 a1 b1 e1 hi1 g1 f1 => by have q : (F_crewFault s) = Sum.elim (fun z1 : Unit => let v5 := bif m_cmp .eq (s 109 1) 0 then (-1 : Int32) else (bif m_cmp .ne ((s 109 1) - (s 109 1) / 3 * 3) 2 then s 109 1 else (-1 : Int32)); v5) (fun x : Nat × (Int32) => x.2) (itx (B_crewFault_2 s) 0 ((s 109 1).toNatClampNeg) ()) := (by rfl); rw [q, e1]; rfl)
  · skip
    have hbi1 := cl_lt (s 109 1)
    refine UP.stp 3 (i1 := 5) (L1 := [some (.ref 109), some (.int (Int32.ofNat i1))]) (st1 := [.int (s 109 1), .int (Int32.ofNat i1)]) (s1 := s) rfl ?_
    refine UP.icF rfl (ge_F hi1) ?_
    refine UP.stp 6 (i1 := 12) (L1 := [some (.ref 109), some (.int (Int32.ofNat i1))]) (st1 := [.int (Int32.ofNat i1), .ref 110, .int ((Int32.ofNat i1) - (Int32.ofNat i1) / 3 * 3)]) (s1 := s) rfl ?_
    refine UP.ald (e := i1) rfl rfl (by omega) ?_
    show UP m_X4_crewFault 13 [some (.ref 109), some (.int (Int32.ofNat i1))] [.int (s 110 i1), .int ((Int32.ofNat i1) - (Int32.ofNat i1) / 3 * 3)] s (Qi s (F_crewFault s))
    refine UP.cI (M1 := m_X4_fitsCrew) (as := [.int ((Int32.ofNat i1) - (Int32.ofNat i1) / 3 * 3), .int (s 110 i1)]) (rest := []) (T := F_fitsCrew s ((Int32.ofNat i1) - (Int32.ofNat i1) / 3 * 3) (s 110 i1)) rfl rfl (ux_fitsCrew s ((Int32.ofNat i1) - (Int32.ofNat i1) / 3 * 3) (s 110 i1)) ?_
    refine brk (K := (Kx (fun (i1 : Nat) (a1 : Unit) => UP m_X4_crewFault 2 [some (.ref 109), some (.int (Int32.ofNat i1))] [] s (Qi s (F_crewFault s))) (fun (_ : Nat) (b1 : Int32) => (F_crewFault s) = b1) i1)) (m_cmp .ne (F_fitsCrew s ((Int32.ofNat i1) - (Int32.ofNat i1) / 3 * 3) (s 110 i1)) 0) (.inl ()) (.inr (Int32.ofNat i1)) (by exact kk) (fun cc kk => ?_) (fun cc kk => ?_)
    · skip
      refine UP.ifT rfl cc ?_
      refine UP.stp 2 (i1 := 2) (L1 := [some (.ref 109), some (.int ((Int32.ofNat i1) + 1))]) (st1 := []) (s1 := s) rfl ?_
      rw [ofn_s]
      exact kk
    · skip
      refine UP.ifF rfl cc ?_
      refine UP.stp 1 (i1 := 16) (L1 := [some (.ref 109), some (.int (Int32.ofNat i1))]) (st1 := [.int (Int32.ofNat i1)]) (s1 := s) rfl ?_
      have kk : (F_crewFault s) = Int32.ofNat i1 := by exact kk
      exact UP.ret (r := some (.int (Int32.ofNat i1))) rfl ⟨by rw [kk], by rw [kk]⟩
  · skip
    refine UP.eqT (let v5 := bif m_cmp .eq (s 109 1) 0 then (-1 : Int32) else (bif m_cmp .ne ((s 109 1) - (s 109 1) / 3 * 3) 2 then s 109 1 else (-1 : Int32)); v5) (by have q : (F_crewFault s) = Sum.elim (fun z1 : Unit => let v5 := bif m_cmp .eq (s 109 1) 0 then (-1 : Int32) else (bif m_cmp .ne ((s 109 1) - (s 109 1) / 3 * 3) 2 then s 109 1 else (-1 : Int32)); v5) (fun x : Nat × (Int32) => x.2) (itx (B_crewFault_2 s) 0 ((s 109 1).toNatClampNeg) ()) := (by rfl); rw [q, e1]; rfl) ?_
    refine UP.stp 3 (i1 := 5) (L1 := [some (.ref 109), some (.int (Int32.ofNat ((s 109 1).toNatClampNeg)))]) (st1 := [.int (s 109 1), .int (Int32.ofNat ((s 109 1).toNatClampNeg))]) (s1 := s) rfl ?_
    refine UP.icT rfl (ge_T _) ?_
    refine UP.stp 2 (i1 := 21) (L1 := [some (.ref 109), some (.int (Int32.ofNat ((s 109 1).toNatClampNeg)))]) (st1 := [.int (s 109 1)]) (s1 := s) rfl ?_
    refine mrg (m_cmp .eq (s 109 1) 0) (-1 : Int32) (bif m_cmp .ne ((s 109 1) - (s 109 1) / 3 * 3) 2 then s 109 1 else (-1 : Int32)) (fun v5 : Int32 => UP m_X4_crewFault 32 [some (.ref 109), some (.int (Int32.ofNat ((s 109 1).toNatClampNeg)))] [.int v5] s (Qi s (let v5 := bif m_cmp .eq (s 109 1) 0 then (-1 : Int32) else (bif m_cmp .ne ((s 109 1) - (s 109 1) / 3 * 3) 2 then s 109 1 else (-1 : Int32)); v5))) (fun cc kk => ?_) (fun cc kk => ?_) (fun v5 e5 => ?_)
    · skip
      refine UP.ifT rfl cc ?_
      refine UP.stp 2 (i1 := 32) (L1 := [some (.ref 109), some (.int (Int32.ofNat ((s 109 1).toNatClampNeg)))]) (st1 := [.int (-1)]) (s1 := s) rfl ?_
      exact kk
    · skip
      refine UP.ifF rfl cc ?_
      refine UP.stp 5 (i1 := 27) (L1 := [some (.ref 109), some (.int (Int32.ofNat ((s 109 1).toNatClampNeg)))]) (st1 := [.int 2, .int ((s 109 1) - (s 109 1) / 3 * 3)]) (s1 := s) rfl ?_
      refine mrg (m_cmp .ne ((s 109 1) - (s 109 1) / 3 * 3) 2) (s 109 1) (-1 : Int32) (fun v4 : Int32 => UP m_X4_crewFault 32 [some (.ref 109), some (.int (Int32.ofNat ((s 109 1).toNatClampNeg)))] [.int v4] s (Qi s (let v5 := bif m_cmp .eq (s 109 1) 0 then (-1 : Int32) else (bif m_cmp .ne ((s 109 1) - (s 109 1) / 3 * 3) 2 then s 109 1 else (-1 : Int32)); v5))) (fun cc kk => ?_) (fun cc kk => ?_) (fun v4 e4 => ?_)
      · skip
        refine UP.icT rfl cc ?_
        refine UP.stp 2 (i1 := 32) (L1 := [some (.ref 109), some (.int (Int32.ofNat ((s 109 1).toNatClampNeg)))]) (st1 := [.int (s 109 1)]) (s1 := s) rfl ?_
        exact kk
      · skip
        refine UP.icF rfl cc ?_
        refine UP.stp 2 (i1 := 32) (L1 := [some (.ref 109), some (.int (Int32.ofNat ((s 109 1).toNatClampNeg)))]) (st1 := [.int (-1)]) (s1 := s) rfl ?_
        exact kk
      subst e4
      exact kk
    exact UP.ret (r := some (.int v5)) rfl ⟨by subst e5; rfl, by subst e5; rfl⟩
def W_signFault_1 : List (Nat × Nat × Option Nat) := []
def B_signFault_1_2 (s : SG) (i1 : Nat) (a1 : Unit) : (Unit) ⊕ (Int32) := let v2 := s 112 i1; let v4 := bif m_cmp .lt v2 48 then (0 : Int32) else (bif m_cmp .gt v2 51 then (0 : Int32) else (1 : Int32)); bif m_cmp .ne v4 0 then (.inl ()) else (.inr (Int32.ofNat i1))
def F_signFault_1 (s : SG)  : Int32 := Sum.elim (fun z1 : Unit => (-1)) (fun x : Nat × (Int32) => x.2) (itx (B_signFault_1_2 s) 0 ((s 111 1).toNatClampNeg) ())
theorem ux_signFault_1 (s : SG)   : UP m_X4_signFault 0 (m_ent 5 [.ref 111, .int 1]) [] s (Qi s (F_signFault_1 s)) := by
  refine UP.stp 2 (i1 := 2) (L1 := [some (.ref 111), some (.int 1), some (.int 0), none, none]) (st1 := []) (s1 := s) rfl ?_
  refine lpx (fun (i1 : Nat) (a1 : Unit) => ∀ (u1_3 : Option Value) (u1_4 : Option Value), UP m_X4_signFault 2 [some (.ref 111), some (.int 1), some (.int (Int32.ofNat i1)), u1_3, u1_4] [] s (Qi s (F_signFault_1 s))) (fun (_ : Nat) (b1 : Int32) => (F_signFault_1 s) = b1) (fun (_ : Nat) (a1 : Unit) => Fr W_signFault_1 s s) (B_signFault_1_2 s) ((s 111 1).toNatClampNeg) (fun i1 a1 x1 hi1 g1 e => g1) (fun i1 a1 hi1 g1 kk => ?_) ((s 111 1).toNatClampNeg) (0) () (by omega) (Fr.rf _ _) (fun z1 e1 g1 => ?_) (fun i1 a1 b1 e1 hi1 g1 f1 => by have q : (F_signFault_1 s) = Sum.elim (fun z1 : Unit => (-1)) (fun x : Nat × (Int32) => x.2) (itx (B_signFault_1_2 s) 0 ((s 111 1).toNatClampNeg) ()) := (by rfl); rw [q, e1]; rfl) none none
  · skip
    intro u1_3 u1_4
    have hbi1 := cl_lt (s 111 1)
    refine UP.stp 3 (i1 := 5) (L1 := [some (.ref 111), some (.int 1), some (.int (Int32.ofNat i1)), u1_3, u1_4]) (st1 := [.int (s 111 1), .int (Int32.ofNat i1)]) (s1 := s) rfl ?_
    refine UP.icF rfl (ge_F hi1) ?_
    refine UP.stp 3 (i1 := 9) (L1 := [some (.ref 111), some (.int 1), some (.int (Int32.ofNat i1)), u1_3, u1_4]) (st1 := [.int (Int32.ofNat i1), .ref 112]) (s1 := s) rfl ?_
    refine UP.ald (e := i1) rfl rfl (by omega) ?_
    show UP m_X4_signFault 10 [some (.ref 111), some (.int 1), some (.int (Int32.ofNat i1)), u1_3, u1_4] [.int (s 112 i1)] s (Qi s (F_signFault_1 s))
    refine nm (G := fun v2 => UP m_X4_signFault 10 [some (.ref 111), some (.int 1), some (.int (Int32.ofNat i1)), u1_3, u1_4] [.int v2] s (Qi s (F_signFault_1 s))) (s 112 i1) (fun v2 e2 => ?_)
    refine UP.stp 5 (i1 := 15) (L1 := [some (.ref 111), some (.int 1), some (.int (Int32.ofNat i1)), some (.int v2), u1_4]) (st1 := [.int 48, .int v2]) (s1 := s) rfl ?_
    refine mrg (m_cmp .lt v2 48) (0 : Int32) (bif m_cmp .gt v2 51 then (0 : Int32) else (1 : Int32)) (fun v4 : Int32 => UP m_X4_signFault 35 [some (.ref 111), some (.int 1), some (.int (Int32.ofNat i1)), some (.int v2), u1_4] [.int v4] s (Qi s (F_signFault_1 s))) (fun cc kk => ?_) (fun cc kk => ?_) (fun v4 e4 => ?_)
    · skip
      refine UP.icT rfl cc ?_
      refine UP.stp 2 (i1 := 35) (L1 := [some (.ref 111), some (.int 1), some (.int (Int32.ofNat i1)), some (.int v2), u1_4]) (st1 := [.int 0]) (s1 := s) rfl ?_
      exact kk
    · skip
      refine UP.icF rfl cc ?_
      refine UP.stp 2 (i1 := 18) (L1 := [some (.ref 111), some (.int 1), some (.int (Int32.ofNat i1)), some (.int v2), u1_4]) (st1 := [.int 51, .int v2]) (s1 := s) rfl ?_
      refine mrg (m_cmp .gt v2 51) (0 : Int32) (1 : Int32) (fun v3 : Int32 => UP m_X4_signFault 35 [some (.ref 111), some (.int 1), some (.int (Int32.ofNat i1)), some (.int v2), u1_4] [.int v3] s (Qi s (F_signFault_1 s))) (fun cc kk => ?_) (fun cc kk => ?_) (fun v3 e3 => ?_)
      · skip
        refine UP.icT rfl cc ?_
        refine UP.stp 2 (i1 := 35) (L1 := [some (.ref 111), some (.int 1), some (.int (Int32.ofNat i1)), some (.int v2), u1_4]) (st1 := [.int 0]) (s1 := s) rfl ?_
        exact kk
      · skip
        refine UP.icF rfl cc ?_
        refine UP.stp 2 (i1 := 35) (L1 := [some (.ref 111), some (.int 1), some (.int (Int32.ofNat i1)), some (.int v2), u1_4]) (st1 := [.int 1]) (s1 := s) rfl ?_
        exact kk
      subst e3
      exact kk
    refine UP.stp 2 (i1 := 37) (L1 := [some (.ref 111), some (.int 1), some (.int (Int32.ofNat i1)), some (.int v2), some (.int v4)]) (st1 := [.int v4]) (s1 := s) rfl ?_
    refine brk (K := (Kx (fun (i1 : Nat) (a1 : Unit) => ∀ (u1_3 : Option Value) (u1_4 : Option Value), UP m_X4_signFault 2 [some (.ref 111), some (.int 1), some (.int (Int32.ofNat i1)), u1_3, u1_4] [] s (Qi s (F_signFault_1 s))) (fun (_ : Nat) (b1 : Int32) => (F_signFault_1 s) = b1) i1)) (m_cmp .ne v4 0) (.inl ()) (.inr (Int32.ofNat i1)) (by subst e4 e2; exact kk) (fun cc kk => ?_) (fun cc kk => ?_)
    · skip
      refine UP.ifT rfl cc ?_
      refine UP.stp 2 (i1 := 2) (L1 := [some (.ref 111), some (.int 1), some (.int ((Int32.ofNat i1) + 1)), some (.int v2), some (.int v4)]) (st1 := []) (s1 := s) rfl ?_
      subst e4 e2
      rw [ofn_s]
      exact kk _ _
    · skip
      refine UP.ifF rfl cc ?_
      refine UP.stp 1 (i1 := 39) (L1 := [some (.ref 111), some (.int 1), some (.int (Int32.ofNat i1)), some (.int v2), some (.int v4)]) (st1 := [.int (Int32.ofNat i1)]) (s1 := s) rfl ?_
      have kk : (F_signFault_1 s) = Int32.ofNat i1 := by subst e4 e2; exact kk
      exact UP.ret (r := some (.int (Int32.ofNat i1))) rfl ⟨by rw [kk], by rw [kk]⟩
  · skip
    intro u1_3 u1_4
    refine UP.eqT ((-1)) (by have q : (F_signFault_1 s) = Sum.elim (fun z1 : Unit => (-1)) (fun x : Nat × (Int32) => x.2) (itx (B_signFault_1_2 s) 0 ((s 111 1).toNatClampNeg) ()) := (by rfl); rw [q, e1]; rfl) ?_
    refine UP.stp 3 (i1 := 5) (L1 := [some (.ref 111), some (.int 1), some (.int (Int32.ofNat ((s 111 1).toNatClampNeg))), u1_3, u1_4]) (st1 := [.int (s 111 1), .int (Int32.ofNat ((s 111 1).toNatClampNeg))]) (s1 := s) rfl ?_
    refine UP.icT rfl (ge_T _) ?_
    refine UP.stp 1 (i1 := 43) (L1 := [some (.ref 111), some (.int 1), some (.int (Int32.ofNat ((s 111 1).toNatClampNeg))), u1_3, u1_4]) (st1 := [.int (-1)]) (s1 := s) rfl ?_
    exact UP.ret (r := some (.int (-1))) rfl ⟨by rfl, by rfl⟩
