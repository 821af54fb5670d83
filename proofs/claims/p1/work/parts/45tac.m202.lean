def W_readsCrew : List (Nat × Nat × Option Nat) := [(126, 127, none), (123, 123, some 2)]
def B_readsCrew_7  (i1 : Nat) (a1 : SG × Int32) : (SG × Int32) ⊕ (Int32 × SG) := bif m_cmp .lt a1.2 (a1.1 124 0) then (let z2 := F_readsRower a1.1 (Int32.ofNat i1) a1.2; bif m_cmp .ge z2.1 2 then (bif m_cmp .ne (a1.2 + 2) (z2.2 124 0) then (bif m_cmp .eq (F_byteAt_0 z2.2 (a1.2 + 2)) 59 then (.inl (z2.2, (a1.2 + 2) + 1)) else (.inr (a1.2 + 2, z2.2))) else (.inr ((-1), (uset z2.2 123 2 ((Int32.ofNat i1) + 1))))) else (.inr (a1.2 + z2.1, z2.2))) else (bif m_cmp .le a1.2 0 then (.inr ((-1), a1.1)) else (let z4 := F_readsRower a1.1 (Int32.ofNat i1) a1.2; bif m_cmp .ge z4.1 2 then (bif m_cmp .ne (a1.2 + 2) (z4.2 124 0) then (bif m_cmp .eq (F_byteAt_0 z4.2 (a1.2 + 2)) 59 then (.inl (z4.2, (a1.2 + 2) + 1)) else (.inr (a1.2 + 2, z4.2))) else (.inr ((-1), (uset z4.2 123 2 ((Int32.ofNat i1) + 1))))) else (.inr (a1.2 + z4.1, z4.2))))
set_option maxRecDepth 20000 in
set_option maxHeartbeats 200000 in
theorem fr_B_readsCrew_7  (i1 : Nat) (a1 : SG × Int32)  : Fr W_readsCrew a1.1 ((Sum.elim (fun x : SG × Int32 => x.1) (fun x : Int32 × SG => x.2)) ((B_readsCrew_7) i1 a1)) := by dsimp only [B_readsCrew_7]; exact (Fr.bifp (Sum.elim (fun x : SG × Int32 => x.1) (fun x : Int32 × SG => x.2)) (by (try dsimp only [Sum.elim_inl, Sum.elim_inr]); exact (Fr.bifp (Sum.elim (fun x : SG × Int32 => x.1) (fun x : Int32 × SG => x.2)) (by (try dsimp only [Sum.elim_inl, Sum.elim_inr]); exact (Fr.bifp (Sum.elim (fun x : SG × Int32 => x.1) (fun x : Int32 × SG => x.2)) (by (try dsimp only [Sum.elim_inl, Sum.elim_inr]); exact (Fr.bifp (Sum.elim (fun x : SG × Int32 => x.1) (fun x : Int32 × SG => x.2)) (by (try dsimp only [Sum.elim_inl, Sum.elim_inr]); exact (Fr.tr (s1 := a1.1) (Fr.rf _ _) (Fr.wk (W2 := W_readsCrew) (fr_readsRower a1.1 (Int32.ofNat i1) a1.2) (by rfl)))) (by (try dsimp only [Sum.elim_inl, Sum.elim_inr]); exact (Fr.tr (s1 := a1.1) (Fr.rf _ _) (Fr.wk (W2 := W_readsCrew) (fr_readsRower a1.1 (Int32.ofNat i1) a1.2) (by rfl)))))) (by (try dsimp only [Sum.elim_inl, Sum.elim_inr]); exact (let z2 : Int32 × SG := F_readsRower a1.1 (Int32.ofNat i1) a1.2; (Fr.uset (s1 := z2.2) (a := 123) (j := 2) (x := (Int32.ofNat i1) + 1) (by rfl) (Fr.tr (s1 := a1.1) (Fr.rf _ _) (Fr.wk (W2 := W_readsCrew) (fr_readsRower a1.1 (Int32.ofNat i1) a1.2) (by rfl)))))))) (by (try dsimp only [Sum.elim_inl, Sum.elim_inr]); exact (Fr.tr (s1 := a1.1) (Fr.rf _ _) (Fr.wk (W2 := W_readsCrew) (fr_readsRower a1.1 (Int32.ofNat i1) a1.2) (by rfl)))))) (by (try dsimp only [Sum.elim_inl, Sum.elim_inr]); exact (Fr.bifp (Sum.elim (fun x : SG × Int32 => x.1) (fun x : Int32 × SG => x.2)) (by (try dsimp only [Sum.elim_inl, Sum.elim_inr]); exact (Fr.rf _ _)) (by (try dsimp only [Sum.elim_inl, Sum.elim_inr]); exact (Fr.bifp (Sum.elim (fun x : SG × Int32 => x.1) (fun x : Int32 × SG => x.2)) (by (try dsimp only [Sum.elim_inl, Sum.elim_inr]); exact (Fr.bifp (Sum.elim (fun x : SG × Int32 => x.1) (fun x : Int32 × SG => x.2)) (by (try dsimp only [Sum.elim_inl, Sum.elim_inr]); exact (Fr.bifp (Sum.elim (fun x : SG × Int32 => x.1) (fun x : Int32 × SG => x.2)) (by (try dsimp only [Sum.elim_inl, Sum.elim_inr]); exact (Fr.tr (s1 := a1.1) (Fr.rf _ _) (Fr.wk (W2 := W_readsCrew) (fr_readsRower a1.1 (Int32.ofNat i1) a1.2) (by rfl)))) (by (try dsimp only [Sum.elim_inl, Sum.elim_inr]); exact (Fr.tr (s1 := a1.1) (Fr.rf _ _) (Fr.wk (W2 := W_readsCrew) (fr_readsRower a1.1 (Int32.ofNat i1) a1.2) (by rfl)))))) (by (try dsimp only [Sum.elim_inl, Sum.elim_inr]); exact (let z4 : Int32 × SG := F_readsRower a1.1 (Int32.ofNat i1) a1.2; (Fr.uset (s1 := z4.2) (a := 123) (j := 2) (x := (Int32.ofNat i1) + 1) (by rfl) (Fr.tr (s1 := a1.1) (Fr.rf _ _) (Fr.wk (W2 := W_readsCrew) (fr_readsRower a1.1 (Int32.ofNat i1) a1.2) (by rfl)))))))) (by (try dsimp only [Sum.elim_inl, Sum.elim_inr]); exact (Fr.tr (s1 := a1.1) (Fr.rf _ _) (Fr.wk (W2 := W_readsCrew) (fr_readsRower a1.1 (Int32.ofNat i1) a1.2) (by rfl)))))))))
def F_readsCrew (s : SG)  : Int32 × SG := Sum.elim (fun _ : SG × Int32 => (0, s)) (fun x : Nat × (Int32 × SG) => x.2) (itx (B_readsCrew_7) 0 9 ((uset s 123 2 0), (0 : Int32)))
set_option maxRecDepth 20000 in
set_option maxHeartbeats 200000 in
theorem fr_readsCrew (s : SG)   : Fr W_readsCrew s (F_readsCrew s).2 := by dsimp only [F_readsCrew]; exact (frElim (m := (fun x : Int32 × SG => x.2)) (fun z1 h => (Fr.rf _ _)) (fun x h => (by have k := frItx (W := W_readsCrew) (m1 := (fun x : SG × Int32 => x.1)) (m2 := (fun x : Int32 × SG => x.2)) (f := (B_readsCrew_7)) (9) (fun ii aa hh => Fr.wk (W2 := W_readsCrew) (fr_B_readsCrew_7  ii aa ) (by rfl)) 9 0 ((uset s 123 2 0), (0 : Int32)) (by omega) (Fr.uset (s1 := s) (a := 123) (j := 2) (x := 0) (by rfl) (Fr.rf _ _)); rw [h] at k; exact k)))
set_option maxRecDepth 20000 in
set_option maxHeartbeats 200000 in
theorem rc_8 (x z : SG × Int32) : ¬ B_readsCrew_7 (0 + 8) x = .inl z := by
  have e : B_readsCrew_7 (0 + 8) x = (bif m_cmp .lt x.2 (x.1 124 0) then .inr (x.2 + 0, x.1) else (bif m_cmp .le x.2 0 then .inr (-1, x.1) else .inr (x.2 + 0, x.1))) := rfl
  rw [e]
  cases m_cmp .lt x.2 (x.1 124 0)
  · cases m_cmp .le x.2 0
    · exact fun h => by cases h
    · exact fun h => by cases h
  · exact fun h => by cases h
set_option maxRecDepth 20000 in
set_option maxHeartbeats 200000 in
theorem ux_readsCrew (s : SG)   : UP m_X7_readsCrew 0 (m_ent 4 [.ref 123]) [] s (Qb (F_readsCrew s)) := by
  refine UP.stp 7 (i1 := 7) (L1 := [some (.ref 123), some (.int 0), some (.int 0), none]) (st1 := []) (s1 := (uset s 123 2 0)) rfl ?_
  refine lpx (fun (i1 : Nat) (a1 : SG × Int32) => ∀ (u1_3 : Option Value), UP m_X7_readsCrew 7 [some (.ref 123), some (.int (Int32.ofNat i1)), some (.int a1.2), u1_3] [] a1.1 (Qb (F_readsCrew s))) (fun (_ : Nat) (b1 : Int32 × SG) => (F_readsCrew s) = b1) (fun (_ : Nat) (a1 : SG × Int32) => Fr W_readsCrew (uset s 123 2 0) a1.1) (B_readsCrew_7) (9) (fun i1 a1 x1 hi1 g1 e => by have q := g1.tr (fr_B_readsCrew_7  i1 a1 ); rw [e] at q; exact q) (fun i1 a1 hi1 g1 kk => ?_) 9 (0) ((uset s 123 2 0), (0 : Int32)) (by omega) (Fr.rf _ _) (fun z1 e1 g1 => ?_) (fun i1 a1 b1 e1 hi1 g1 f1 => by have q : (F_readsCrew s) = Sum.elim (fun _ : SG × Int32 => (0, s)) (fun x : Nat × (Int32 × SG) => x.2) (itx (B_readsCrew_7) 0 9 ((uset s 123 2 0), (0 : Int32))) := (by first | (dsimp only [F_readsCrew]; done) | (dsimp only; done) | rfl); rw [q, e1]; first | (dsimp only [Sum.elim_inr]; done) | rfl) none
  · skip
    intro u1_3
    refine UP.stp 5 (i1 := 12) (L1 := [some (.ref 123), some (.int (Int32.ofNat i1)), some (.int a1.2), u1_3]) (st1 := [.int (a1.1 124 0), .int a1.2]) (s1 := a1.1) rfl ?_
    refine brk (K := (Kx (fun (i1 : Nat) (a1 : SG × Int32) => ∀ (u1_3 : Option Value), UP m_X7_readsCrew 7 [some (.ref 123), some (.int (Int32.ofNat i1)), some (.int a1.2), u1_3] [] a1.1 (Qb (F_readsCrew s))) (fun (_ : Nat) (b1 : Int32 × SG) => (F_readsCrew s) = b1) i1)) (m_cmp .lt a1.2 (a1.1 124 0)) (let z2 := F_readsRower a1.1 (Int32.ofNat i1) a1.2; bif m_cmp .ge z2.1 2 then (bif m_cmp .ne (a1.2 + 2) (z2.2 124 0) then (bif m_cmp .eq (F_byteAt_0 z2.2 (a1.2 + 2)) 59 then (.inl (z2.2, (a1.2 + 2) + 1)) else (.inr (a1.2 + 2, z2.2))) else (.inr ((-1), (uset z2.2 123 2 ((Int32.ofNat i1) + 1))))) else (.inr (a1.2 + z2.1, z2.2))) (bif m_cmp .le a1.2 0 then (.inr ((-1), a1.1)) else (let z4 := F_readsRower a1.1 (Int32.ofNat i1) a1.2; bif m_cmp .ge z4.1 2 then (bif m_cmp .ne (a1.2 + 2) (z4.2 124 0) then (bif m_cmp .eq (F_byteAt_0 z4.2 (a1.2 + 2)) 59 then (.inl (z4.2, (a1.2 + 2) + 1)) else (.inr (a1.2 + 2, z4.2))) else (.inr ((-1), (uset z4.2 123 2 ((Int32.ofNat i1) + 1))))) else (.inr (a1.2 + z4.1, z4.2)))) (by (try dsimp only [B_readsCrew_7] at kk ⊢); exact kk) (fun cc kk => ?_) (fun cc kk => ?_)
    · skip
      refine UP.icT rfl cc ?_
      refine UP.stp 3 (i1 := 18) (L1 := [some (.ref 123), some (.int (Int32.ofNat i1)), some (.int a1.2), u1_3]) (st1 := [.int a1.2, .int (Int32.ofNat i1), .ref 123]) (s1 := a1.1) rfl ?_
      refine UP.cB (M1 := m_X7_readsRower) (as := [.ref 123, .int (Int32.ofNat i1), .int a1.2]) (rest := []) (T := F_readsRower a1.1 (Int32.ofNat i1) a1.2) rfl rfl (ux_readsRower a1.1 (Int32.ofNat i1) a1.2) (fun z2 e2 => ?_)
      refine UP.stp 3 (i1 := 22) (L1 := [some (.ref 123), some (.int (Int32.ofNat i1)), some (.int a1.2), some (.int z2.1)]) (st1 := [.int 2, .int z2.1]) (s1 := z2.2) rfl ?_
      refine brk (K := (Kx (fun (i1 : Nat) (a1 : SG × Int32) => ∀ (u1_3 : Option Value), UP m_X7_readsCrew 7 [some (.ref 123), some (.int (Int32.ofNat i1)), some (.int a1.2), u1_3] [] a1.1 (Qb (F_readsCrew s))) (fun (_ : Nat) (b1 : Int32 × SG) => (F_readsCrew s) = b1) i1)) (m_cmp .ge z2.1 2) (bif m_cmp .ne (a1.2 + 2) (z2.2 124 0) then (bif m_cmp .eq (F_byteAt_0 z2.2 (a1.2 + 2)) 59 then (.inl (z2.2, (a1.2 + 2) + 1)) else (.inr (a1.2 + 2, z2.2))) else (.inr ((-1), (uset z2.2 123 2 ((Int32.ofNat i1) + 1))))) (.inr (a1.2 + z2.1, z2.2)) (by subst e2; (try dsimp only [B_readsCrew_7] at kk ⊢); exact kk) (fun cc kk => ?_) (fun cc kk => ?_)
      · skip
        refine UP.icT rfl cc ?_
        refine UP.stp 7 (i1 := 34) (L1 := [some (.ref 123), some (.int ((Int32.ofNat i1) + 1)), some (.int (a1.2 + 2)), some (.int z2.1)]) (st1 := [.int (z2.2 124 0), .int (a1.2 + 2)]) (s1 := z2.2) rfl ?_
        refine brk (K := (Kx (fun (i1 : Nat) (a1 : SG × Int32) => ∀ (u1_3 : Option Value), UP m_X7_readsCrew 7 [some (.ref 123), some (.int (Int32.ofNat i1)), some (.int a1.2), u1_3] [] a1.1 (Qb (F_readsCrew s))) (fun (_ : Nat) (b1 : Int32 × SG) => (F_readsCrew s) = b1) i1)) (m_cmp .ne (a1.2 + 2) (z2.2 124 0)) (bif m_cmp .eq (F_byteAt_0 z2.2 (a1.2 + 2)) 59 then (.inl (z2.2, (a1.2 + 2) + 1)) else (.inr (a1.2 + 2, z2.2))) (.inr ((-1), (uset z2.2 123 2 ((Int32.ofNat i1) + 1)))) (by subst e2; (try dsimp only [B_readsCrew_7] at kk ⊢); exact kk) (fun cc kk => ?_) (fun cc kk => ?_)
        · skip
          refine UP.icT rfl cc ?_
          refine UP.stp 3 (i1 := 43) (L1 := [some (.ref 123), some (.int ((Int32.ofNat i1) + 1)), some (.int (a1.2 + 2)), some (.int z2.1)]) (st1 := [.int (a1.2 + 2), .int 0, .ref 123]) (s1 := z2.2) rfl ?_
          refine UP.cI (M1 := m_X7_byteAt) (as := [.ref 123, .int 0, .int (a1.2 + 2)]) (rest := []) (T := F_byteAt_0 z2.2 (a1.2 + 2)) rfl rfl (ux_byteAt_0 z2.2 (a1.2 + 2)) ?_
          refine UP.stp 1 (i1 := 45) (L1 := [some (.ref 123), some (.int ((Int32.ofNat i1) + 1)), some (.int (a1.2 + 2)), some (.int z2.1)]) (st1 := [.int 59, .int (F_byteAt_0 z2.2 (a1.2 + 2))]) (s1 := z2.2) rfl ?_
          refine brk (K := (Kx (fun (i1 : Nat) (a1 : SG × Int32) => ∀ (u1_3 : Option Value), UP m_X7_readsCrew 7 [some (.ref 123), some (.int (Int32.ofNat i1)), some (.int a1.2), u1_3] [] a1.1 (Qb (F_readsCrew s))) (fun (_ : Nat) (b1 : Int32 × SG) => (F_readsCrew s) = b1) i1)) (m_cmp .eq (F_byteAt_0 z2.2 (a1.2 + 2)) 59) (.inl (z2.2, (a1.2 + 2) + 1)) (.inr (a1.2 + 2, z2.2)) (by subst e2; (try dsimp only [B_readsCrew_7] at kk ⊢); exact kk) (fun cc kk => ?_) (fun cc kk => ?_)
          · skip
            refine UP.icT rfl cc ?_
            refine UP.stp 2 (i1 := 7) (L1 := [some (.ref 123), some (.int ((Int32.ofNat i1) + 1)), some (.int ((a1.2 + 2) + 1)), some (.int z2.1)]) (st1 := []) (s1 := z2.2) rfl ?_
            subst e2
            rw [ofn_s]
            exact kk _
          · skip
            refine UP.icF rfl cc ?_
            refine UP.stp 1 (i1 := 47) (L1 := [some (.ref 123), some (.int ((Int32.ofNat i1) + 1)), some (.int (a1.2 + 2)), some (.int z2.1)]) (st1 := [.int (a1.2 + 2)]) (s1 := z2.2) rfl ?_
            have kk : (F_readsCrew s) = (a1.2 + 2, z2.2) := by subst e2; exact kk
            exact UP.ret (r := some (.int (a1.2 + 2))) rfl ⟨by rw [kk], by rw [kk]⟩
        · skip
          refine UP.icF rfl cc ?_
          refine UP.stp 4 (i1 := 39) (L1 := [some (.ref 123), some (.int ((Int32.ofNat i1) + 1)), some (.int (a1.2 + 2)), some (.int z2.1)]) (st1 := [.int (-1)]) (s1 := (uset z2.2 123 2 ((Int32.ofNat i1) + 1))) rfl ?_
          have kk : (F_readsCrew s) = ((-1), (uset z2.2 123 2 ((Int32.ofNat i1) + 1))) := by subst e2; exact kk
          exact UP.ret (r := some (.int (-1))) rfl ⟨by rw [kk], by rw [kk]⟩
      · skip
        refine UP.icF rfl cc ?_
        refine UP.stp 3 (i1 := 26) (L1 := [some (.ref 123), some (.int (Int32.ofNat i1)), some (.int a1.2), some (.int z2.1)]) (st1 := [.int (a1.2 + z2.1)]) (s1 := z2.2) rfl ?_
        have kk : (F_readsCrew s) = (a1.2 + z2.1, z2.2) := by subst e2; exact kk
        exact UP.ret (r := some (.int (a1.2 + z2.1))) rfl ⟨by rw [kk], by rw [kk]⟩
    · skip
      refine UP.icF rfl cc ?_
      refine UP.stp 1 (i1 := 14) (L1 := [some (.ref 123), some (.int (Int32.ofNat i1)), some (.int a1.2), u1_3]) (st1 := [.int a1.2]) (s1 := a1.1) rfl ?_
      refine brk (K := (Kx (fun (i1 : Nat) (a1 : SG × Int32) => ∀ (u1_3 : Option Value), UP m_X7_readsCrew 7 [some (.ref 123), some (.int (Int32.ofNat i1)), some (.int a1.2), u1_3] [] a1.1 (Qb (F_readsCrew s))) (fun (_ : Nat) (b1 : Int32 × SG) => (F_readsCrew s) = b1) i1)) (m_cmp .le a1.2 0) (.inr ((-1), a1.1)) (let z4 := F_readsRower a1.1 (Int32.ofNat i1) a1.2; bif m_cmp .ge z4.1 2 then (bif m_cmp .ne (a1.2 + 2) (z4.2 124 0) then (bif m_cmp .eq (F_byteAt_0 z4.2 (a1.2 + 2)) 59 then (.inl (z4.2, (a1.2 + 2) + 1)) else (.inr (a1.2 + 2, z4.2))) else (.inr ((-1), (uset z4.2 123 2 ((Int32.ofNat i1) + 1))))) else (.inr (a1.2 + z4.1, z4.2))) (by (try dsimp only [B_readsCrew_7] at kk ⊢); exact kk) (fun cc kk => ?_) (fun cc kk => ?_)
      · skip
        refine UP.ifT rfl cc ?_
        refine UP.stp 1 (i1 := 51) (L1 := [some (.ref 123), some (.int (Int32.ofNat i1)), some (.int a1.2), u1_3]) (st1 := [.int (-1)]) (s1 := a1.1) rfl ?_
        have kk : (F_readsCrew s) = ((-1), a1.1) := by exact kk
        exact UP.ret (r := some (.int (-1))) rfl ⟨by rw [kk], by rw [kk]⟩
      · skip
        refine UP.ifF rfl cc ?_
        refine UP.stp 3 (i1 := 18) (L1 := [some (.ref 123), some (.int (Int32.ofNat i1)), some (.int a1.2), u1_3]) (st1 := [.int a1.2, .int (Int32.ofNat i1), .ref 123]) (s1 := a1.1) rfl ?_
        refine UP.cB (M1 := m_X7_readsRower) (as := [.ref 123, .int (Int32.ofNat i1), .int a1.2]) (rest := []) (T := F_readsRower a1.1 (Int32.ofNat i1) a1.2) rfl rfl (ux_readsRower a1.1 (Int32.ofNat i1) a1.2) (fun z4 e4 => ?_)
        refine UP.stp 3 (i1 := 22) (L1 := [some (.ref 123), some (.int (Int32.ofNat i1)), some (.int a1.2), some (.int z4.1)]) (st1 := [.int 2, .int z4.1]) (s1 := z4.2) rfl ?_
        refine brk (K := (Kx (fun (i1 : Nat) (a1 : SG × Int32) => ∀ (u1_3 : Option Value), UP m_X7_readsCrew 7 [some (.ref 123), some (.int (Int32.ofNat i1)), some (.int a1.2), u1_3] [] a1.1 (Qb (F_readsCrew s))) (fun (_ : Nat) (b1 : Int32 × SG) => (F_readsCrew s) = b1) i1)) (m_cmp .ge z4.1 2) (bif m_cmp .ne (a1.2 + 2) (z4.2 124 0) then (bif m_cmp .eq (F_byteAt_0 z4.2 (a1.2 + 2)) 59 then (.inl (z4.2, (a1.2 + 2) + 1)) else (.inr (a1.2 + 2, z4.2))) else (.inr ((-1), (uset z4.2 123 2 ((Int32.ofNat i1) + 1))))) (.inr (a1.2 + z4.1, z4.2)) (by subst e4; (try dsimp only [B_readsCrew_7] at kk ⊢); exact kk) (fun cc kk => ?_) (fun cc kk => ?_)
        · skip
          refine UP.icT rfl cc ?_
          refine UP.stp 7 (i1 := 34) (L1 := [some (.ref 123), some (.int ((Int32.ofNat i1) + 1)), some (.int (a1.2 + 2)), some (.int z4.1)]) (st1 := [.int (z4.2 124 0), .int (a1.2 + 2)]) (s1 := z4.2) rfl ?_
          refine brk (K := (Kx (fun (i1 : Nat) (a1 : SG × Int32) => ∀ (u1_3 : Option Value), UP m_X7_readsCrew 7 [some (.ref 123), some (.int (Int32.ofNat i1)), some (.int a1.2), u1_3] [] a1.1 (Qb (F_readsCrew s))) (fun (_ : Nat) (b1 : Int32 × SG) => (F_readsCrew s) = b1) i1)) (m_cmp .ne (a1.2 + 2) (z4.2 124 0)) (bif m_cmp .eq (F_byteAt_0 z4.2 (a1.2 + 2)) 59 then (.inl (z4.2, (a1.2 + 2) + 1)) else (.inr (a1.2 + 2, z4.2))) (.inr ((-1), (uset z4.2 123 2 ((Int32.ofNat i1) + 1)))) (by subst e4; (try dsimp only [B_readsCrew_7] at kk ⊢); exact kk) (fun cc kk => ?_) (fun cc kk => ?_)
          · skip
            refine UP.icT rfl cc ?_
            refine UP.stp 3 (i1 := 43) (L1 := [some (.ref 123), some (.int ((Int32.ofNat i1) + 1)), some (.int (a1.2 + 2)), some (.int z4.1)]) (st1 := [.int (a1.2 + 2), .int 0, .ref 123]) (s1 := z4.2) rfl ?_
            refine UP.cI (M1 := m_X7_byteAt) (as := [.ref 123, .int 0, .int (a1.2 + 2)]) (rest := []) (T := F_byteAt_0 z4.2 (a1.2 + 2)) rfl rfl (ux_byteAt_0 z4.2 (a1.2 + 2)) ?_
            refine UP.stp 1 (i1 := 45) (L1 := [some (.ref 123), some (.int ((Int32.ofNat i1) + 1)), some (.int (a1.2 + 2)), some (.int z4.1)]) (st1 := [.int 59, .int (F_byteAt_0 z4.2 (a1.2 + 2))]) (s1 := z4.2) rfl ?_
            refine brk (K := (Kx (fun (i1 : Nat) (a1 : SG × Int32) => ∀ (u1_3 : Option Value), UP m_X7_readsCrew 7 [some (.ref 123), some (.int (Int32.ofNat i1)), some (.int a1.2), u1_3] [] a1.1 (Qb (F_readsCrew s))) (fun (_ : Nat) (b1 : Int32 × SG) => (F_readsCrew s) = b1) i1)) (m_cmp .eq (F_byteAt_0 z4.2 (a1.2 + 2)) 59) (.inl (z4.2, (a1.2 + 2) + 1)) (.inr (a1.2 + 2, z4.2)) (by subst e4; (try dsimp only [B_readsCrew_7] at kk ⊢); exact kk) (fun cc kk => ?_) (fun cc kk => ?_)
            · skip
              refine UP.icT rfl cc ?_
              refine UP.stp 2 (i1 := 7) (L1 := [some (.ref 123), some (.int ((Int32.ofNat i1) + 1)), some (.int ((a1.2 + 2) + 1)), some (.int z4.1)]) (st1 := []) (s1 := z4.2) rfl ?_
              subst e4
              rw [ofn_s]
              exact kk _
            · skip
              refine UP.icF rfl cc ?_
              refine UP.stp 1 (i1 := 47) (L1 := [some (.ref 123), some (.int ((Int32.ofNat i1) + 1)), some (.int (a1.2 + 2)), some (.int z4.1)]) (st1 := [.int (a1.2 + 2)]) (s1 := z4.2) rfl ?_
              have kk : (F_readsCrew s) = (a1.2 + 2, z4.2) := by subst e4; exact kk
              exact UP.ret (r := some (.int (a1.2 + 2))) rfl ⟨by rw [kk], by rw [kk]⟩
          · skip
            refine UP.icF rfl cc ?_
            refine UP.stp 4 (i1 := 39) (L1 := [some (.ref 123), some (.int ((Int32.ofNat i1) + 1)), some (.int (a1.2 + 2)), some (.int z4.1)]) (st1 := [.int (-1)]) (s1 := (uset z4.2 123 2 ((Int32.ofNat i1) + 1))) rfl ?_
            have kk : (F_readsCrew s) = ((-1), (uset z4.2 123 2 ((Int32.ofNat i1) + 1))) := by subst e4; exact kk
            exact UP.ret (r := some (.int (-1))) rfl ⟨by rw [kk], by rw [kk]⟩
        · skip
          refine UP.icF rfl cc ?_
          refine UP.stp 3 (i1 := 26) (L1 := [some (.ref 123), some (.int (Int32.ofNat i1)), some (.int a1.2), some (.int z4.1)]) (st1 := [.int (a1.2 + z4.1)]) (s1 := z4.2) rfl ?_
          have kk : (F_readsCrew s) = (a1.2 + z4.1, z4.2) := by subst e4; exact kk
          exact UP.ret (r := some (.int (a1.2 + z4.1))) rfl ⟨by rw [kk], by rw [kk]⟩
  · skip
    intro u1_3
    obtain ⟨x, hx⟩ := itx_last _ 8 0 _ _ e1; exact absurd hx (rc_8 x _)
