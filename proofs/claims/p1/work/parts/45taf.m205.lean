def W_readsRudder : List (Nat × Nat × Option Nat) := [(129, 129, none), (123, 123, some 7)]
def B_readsRudder_5  (i1 : Nat) (a1 : SG) : SG := (uset a1 129 i1 0)
set_option maxRecDepth 20000 in
set_option maxHeartbeats 200000 in
theorem fr_B_readsRudder_5  (i1 : Nat) (a1 : SG)  (hi1 : i1 < 24) : Fr W_readsRudder a1 ((B_readsRudder_5) i1 a1) := by dsimp only [B_readsRudder_5]; exact (Fr.uset (s1 := a1) (a := 129) (j := i1) (x := 0) (by rfl) (Fr.rf _ _))
def B_readsRudder_17 (z1 : SG) (i2 : Nat) (a2 : Unit) : (Unit) ⊕ (Int32 × SG) := bif m_cmp .ne (F_rudderBy z1 (F_byteAt_2 z1 (Int32.ofNat i2))) (-1) then (.inl ()) else (.inr (Int32.ofNat i2, z1))
set_option maxRecDepth 20000 in
set_option maxHeartbeats 200000 in
theorem fr_B_readsRudder_17 (z1 : SG) (i2 : Nat) (a2 : Unit)  : Fr W_readsRudder z1 ((Sum.elim (fun _ : Unit => z1) (fun x : Int32 × SG => x.2)) ((B_readsRudder_17 z1) i2 a2)) := by dsimp only [B_readsRudder_17]; exact (Fr.bifp (Sum.elim (fun _ : Unit => z1) (fun x : Int32 × SG => x.2)) (by (try dsimp only [Sum.elim_inl, Sum.elim_inr]); exact (Fr.rf _ _)) (by (try dsimp only [Sum.elim_inl, Sum.elim_inr]); exact (Fr.rf _ _)))
def B_readsRudder_36  (i6 : Nat) (a6 : SG) : SG := let v9 := F_rudderBy a6 (F_byteAt_2 a6 (Int32.ofNat i6)); (uset a6 129 i6 v9)
set_option maxRecDepth 20000 in
set_option maxHeartbeats 200000 in
theorem fr_B_readsRudder_36  (i6 : Nat) (a6 : SG)   : Fr W_readsRudder a6 ((B_readsRudder_36) i6 a6) := by dsimp only [B_readsRudder_36]; exact (let v9 : Int32 := F_rudderBy a6 (F_byteAt_2 a6 (Int32.ofNat i6)); (Fr.uset (s1 := a6) (a := 129) (j := i6) (x := v9) (by rfl) (Fr.rf _ _)))
def F_readsRudder (s : SG)  : Int32 × SG := let z1 := itr (B_readsRudder_5) 0 24 (uset s 123 7 0); Sum.elim (fun z2 : Unit => let z6 := itr (B_readsRudder_36) 0 ((z1 124 2).toNatClampNeg) z1; let v10 := z6 124 2; ((-1), (uset z6 123 7 v10))) (fun x : Nat × (Int32 × SG) => x.2) (itx (B_readsRudder_17 z1) 0 ((z1 124 2).toNatClampNeg) ())
set_option maxRecDepth 20000 in
set_option maxHeartbeats 200000 in
theorem fr_readsRudder (s : SG)   : Fr W_readsRudder s (F_readsRudder s).2 := by dsimp only [F_readsRudder]; exact (let z1 : SG := itr (B_readsRudder_5) 0 24 (uset s 123 7 0); (frElim (m := (fun x : Int32 × SG => x.2)) (fun z2 h => (let z6 : SG := itr (B_readsRudder_36) 0 ((z1 124 2).toNatClampNeg) z1; (let v10 : Int32 := z6 124 2; (Fr.uset (s1 := z6) (a := 123) (j := 7) (x := v10) (by rfl) (Fr.itr (W := W_readsRudder) (m := (fun x : SG => x)) (f := (B_readsRudder_36)) (fun ii aa => Fr.wk (W2 := W_readsRudder) (fr_B_readsRudder_36  ii aa ) (by rfl)) ((z1 124 2).toNatClampNeg) 0 z1 (frItrB (W := W_readsRudder) (m := (fun x : SG => x)) (f := (B_readsRudder_5)) 24 (fun ii aa hh => Fr.wk (W2 := W_readsRudder) (fr_B_readsRudder_5  ii aa  hh) (by rfl)) 24 0 (uset s 123 7 0) (by omega) (Fr.uset (s1 := s) (a := 123) (j := 7) (x := 0) (by rfl) (Fr.rf _ _)))))))) (fun x h => (by have k := frItx (W := W_readsRudder) (m1 := (fun _ : Unit => z1)) (m2 := (fun x : Int32 × SG => x.2)) (f := (B_readsRudder_17 z1)) ((z1 124 2).toNatClampNeg) (fun ii aa hh => Fr.wk (W2 := W_readsRudder) (fr_B_readsRudder_17 z1 ii aa ) (by rfl)) ((z1 124 2).toNatClampNeg) 0 () (by omega) (frItrB (W := W_readsRudder) (m := (fun x : SG => x)) (f := (B_readsRudder_5)) 24 (fun ii aa hh => Fr.wk (W2 := W_readsRudder) (fr_B_readsRudder_5  ii aa  hh) (by rfl)) 24 0 (uset s 123 7 0) (by omega) (Fr.uset (s1 := s) (a := 123) (j := 7) (x := 0) (by rfl) (Fr.rf _ _))); rw [h] at k; exact k))))
set_option maxRecDepth 20000 in
set_option maxHeartbeats 200000 in
theorem ux_readsRudder (s : SG)   : UP m_X7_readsRudder 0 (m_ent 2 [.ref 123]) [] s (Qb (F_readsRudder s)) := by
  refine UP.stp 5 (i1 := 5) (L1 := [some (.ref 123), some (.int 0)]) (st1 := []) (s1 := (uset s 123 7 0)) rfl ?_
  refine lp (fun (i1 : Nat) (a1 : SG) => UP m_X7_readsRudder 5 [some (.ref 123), some (.int (Int32.ofNat i1))] [] a1 (Qb (F_readsRudder s))) (fun (_ : Nat) (a1 : SG) => Fr W_readsRudder (uset s 123 7 0) a1) (B_readsRudder_5) (24) (fun i1 a1 hi1 g1 => g1.tr (fr_B_readsRudder_5  i1 a1 hi1)) (fun i1 a1 hi1 g1 kk => ?_) 24 (0) (uset s 123 7 0) (by  omega) (Fr.rf _ _) (fun z1 e1 g1 => ?_)
  · skip
    refine UP.stp 2 (i1 := 7) (L1 := [some (.ref 123), some (.int (Int32.ofNat i1))]) (st1 := [.int 24, .int (Int32.ofNat i1)]) (s1 := a1) rfl ?_
    refine UP.icF rfl (ge_F (show i1 < (24 : Int32).toNatClampNeg from hi1)) ?_
    refine UP.stp 4 (i1 := 12) (L1 := [some (.ref 123), some (.int (Int32.ofNat i1))]) (st1 := [.int 0, .int (Int32.ofNat i1), .ref 129]) (s1 := a1) rfl ?_
    refine UP.ast (e := i1) rfl rfl (by omega) ?_
    show UP m_X7_readsRudder 13 [some (.ref 123), some (.int (Int32.ofNat i1))] [] (uset a1 129 i1 0) (Qb (F_readsRudder s))
    refine UP.stp 2 (i1 := 5) (L1 := [some (.ref 123), some (.int ((Int32.ofNat i1) + 1))]) (st1 := []) (s1 := (uset a1 129 i1 0)) rfl ?_
    rw [ofn_s]
    try dsimp only [B_readsRudder_5] at kk
    exact kk
  refine UP.stp 2 (i1 := 7) (L1 := [some (.ref 123), some (.int (Int32.ofNat 24))]) (st1 := [.int 24, .int (Int32.ofNat 24)]) (s1 := z1) rfl ?_
  refine UP.icT rfl (ge_T (24 : Int32)) ?_
  refine UP.stp 2 (i1 := 17) (L1 := [some (.ref 123), some (.int 0)]) (st1 := []) (s1 := z1) rfl ?_
  refine lpx (fun (i2 : Nat) (a2 : Unit) => UP m_X7_readsRudder 17 [some (.ref 123), some (.int (Int32.ofNat i2))] [] z1 (Qb (F_readsRudder s))) (fun (_ : Nat) (b2 : Int32 × SG) => (F_readsRudder s) = b2) (fun (_ : Nat) (a2 : Unit) => Fr W_readsRudder z1 z1) (B_readsRudder_17 z1) ((z1 124 2).toNatClampNeg) (fun i2 a2 x2 hi2 g2 e => g2) (fun i2 a2 hi2 g2 kk => ?_) ((z1 124 2).toNatClampNeg) (0) () (by omega) (Fr.rf _ _) (fun z2 e2 g2 => ?_) (fun i2 a2 b2 e2 hi2 g2 f2 => by have q : (F_readsRudder s) = Sum.elim (fun z2 : Unit => let z6 := itr (B_readsRudder_36) 0 ((z1 124 2).toNatClampNeg) z1; let v10 := z6 124 2; ((-1), (uset z6 123 7 v10))) (fun x : Nat × (Int32 × SG) => x.2) (itx (B_readsRudder_17 z1) 0 ((z1 124 2).toNatClampNeg) ()) := (by subst e1; first | (dsimp only [F_readsRudder]; done) | (dsimp only; done) | rfl); rw [q, e2]; first | (dsimp only [Sum.elim_inr]; done) | rfl)
  · skip
    have hbi2 := cl_lt (z1 124 2)
    refine UP.stp 5 (i1 := 22) (L1 := [some (.ref 123), some (.int (Int32.ofNat i2))]) (st1 := [.int (z1 124 2), .int (Int32.ofNat i2)]) (s1 := z1) rfl ?_
    refine UP.icF rfl (ge_F hi2) ?_
    refine UP.stp 3 (i1 := 26) (L1 := [some (.ref 123), some (.int (Int32.ofNat i2))]) (st1 := [.int (Int32.ofNat i2), .int 2, .ref 123]) (s1 := z1) rfl ?_
    refine UP.cI (M1 := m_X7_byteAt) (as := [.ref 123, .int 2, .int (Int32.ofNat i2)]) (rest := []) (T := F_byteAt_2 z1 (Int32.ofNat i2)) rfl rfl (ux_byteAt_2 z1 (Int32.ofNat i2)) ?_
    refine UP.cI (M1 := m_X7_rudderBy) (as := [.int (F_byteAt_2 z1 (Int32.ofNat i2))]) (rest := []) (T := F_rudderBy z1 (F_byteAt_2 z1 (Int32.ofNat i2))) rfl rfl (ux_rudderBy z1 (F_byteAt_2 z1 (Int32.ofNat i2))) ?_
    refine UP.stp 1 (i1 := 29) (L1 := [some (.ref 123), some (.int (Int32.ofNat i2))]) (st1 := [.int (-1), .int (F_rudderBy z1 (F_byteAt_2 z1 (Int32.ofNat i2)))]) (s1 := z1) rfl ?_
    refine brk (K := (Kx (fun (i2 : Nat) (a2 : Unit) => UP m_X7_readsRudder 17 [some (.ref 123), some (.int (Int32.ofNat i2))] [] z1 (Qb (F_readsRudder s))) (fun (_ : Nat) (b2 : Int32 × SG) => (F_readsRudder s) = b2) i2)) (m_cmp .ne (F_rudderBy z1 (F_byteAt_2 z1 (Int32.ofNat i2))) (-1)) (.inl ()) (.inr (Int32.ofNat i2, z1)) (by (try dsimp only [B_readsRudder_17] at kk ⊢); exact kk) (fun cc kk => ?_) (fun cc kk => ?_)
    · skip
      refine UP.icT rfl cc ?_
      refine UP.stp 2 (i1 := 17) (L1 := [some (.ref 123), some (.int ((Int32.ofNat i2) + 1))]) (st1 := []) (s1 := z1) rfl ?_
      rw [ofn_s]
      exact kk
    · skip
      refine UP.icF rfl cc ?_
      refine UP.stp 1 (i1 := 31) (L1 := [some (.ref 123), some (.int (Int32.ofNat i2))]) (st1 := [.int (Int32.ofNat i2)]) (s1 := z1) rfl ?_
      have kk : (F_readsRudder s) = (Int32.ofNat i2, z1) := by exact kk
      exact UP.ret (r := some (.int (Int32.ofNat i2))) rfl ⟨by rw [kk], by rw [kk]⟩
  · skip
    refine UP.eqT (let z6 := itr (B_readsRudder_36) 0 ((z1 124 2).toNatClampNeg) z1; let v10 := z6 124 2; ((-1), (uset z6 123 7 v10))) (by have q : (F_readsRudder s) = Sum.elim (fun z2 : Unit => let z6 := itr (B_readsRudder_36) 0 ((z1 124 2).toNatClampNeg) z1; let v10 := z6 124 2; ((-1), (uset z6 123 7 v10))) (fun x : Nat × (Int32 × SG) => x.2) (itx (B_readsRudder_17 z1) 0 ((z1 124 2).toNatClampNeg) ()) := (by subst e1; first | (dsimp only [F_readsRudder]; done) | (dsimp only; done) | rfl); rw [q, e2]; first | (dsimp only [Sum.elim_inl]; done) | rfl) ?_
    refine UP.stp 5 (i1 := 22) (L1 := [some (.ref 123), some (.int (Int32.ofNat ((z1 124 2).toNatClampNeg)))]) (st1 := [.int (z1 124 2), .int (Int32.ofNat ((z1 124 2).toNatClampNeg))]) (s1 := z1) rfl ?_
    refine UP.icT rfl (ge_T _) ?_
    refine UP.stp 2 (i1 := 36) (L1 := [some (.ref 123), some (.int 0)]) (st1 := []) (s1 := z1) rfl ?_
    refine lp (fun (i6 : Nat) (a6 : SG) => UP m_X7_readsRudder 36 [some (.ref 123), some (.int (Int32.ofNat i6))] [] a6 (Qb (let z6 := itr (B_readsRudder_36) 0 ((z1 124 2).toNatClampNeg) z1; let v10 := z6 124 2; ((-1), (uset z6 123 7 v10))))) (fun (_ : Nat) (a6 : SG) => Fr W_readsRudder z1 a6) (B_readsRudder_36) ((z1 124 2).toNatClampNeg) (fun i6 a6 hi6 g6 => g6.tr (fr_B_readsRudder_36  i6 a6 )) (fun i6 a6 hi6 g6 kk => ?_) ((z1 124 2).toNatClampNeg) (0) z1 (by  omega) (Fr.rf _ _) (fun z6 e6 g6 => ?_)
    · skip
      have hbi6 := cl_lt (z1 124 2)
      refine UP.stp 5 (i1 := 41) (L1 := [some (.ref 123), some (.int (Int32.ofNat i6))]) (st1 := [.int (a6 124 2), .int (Int32.ofNat i6)]) (s1 := a6) rfl ?_
      refine UP.icF rfl (by rw [(g6 124 2 rfl)]; exact ge_F hi6) ?_
      refine UP.stp 6 (i1 := 48) (L1 := [some (.ref 123), some (.int (Int32.ofNat i6))]) (st1 := [.int (Int32.ofNat i6), .int 2, .ref 123, .int (Int32.ofNat i6), .ref 129]) (s1 := a6) rfl ?_
      refine UP.cI (M1 := m_X7_byteAt) (as := [.ref 123, .int 2, .int (Int32.ofNat i6)]) (rest := [.int (Int32.ofNat i6), .ref 129]) (T := F_byteAt_2 a6 (Int32.ofNat i6)) rfl rfl (ux_byteAt_2 a6 (Int32.ofNat i6)) ?_
      refine UP.cI (M1 := m_X7_rudderBy) (as := [.int (F_byteAt_2 a6 (Int32.ofNat i6))]) (rest := [.int (Int32.ofNat i6), .ref 129]) (T := F_rudderBy a6 (F_byteAt_2 a6 (Int32.ofNat i6))) rfl rfl (ux_rudderBy a6 (F_byteAt_2 a6 (Int32.ofNat i6))) ?_
      refine nm (G := fun v9 => UP m_X7_readsRudder 50 [some (.ref 123), some (.int (Int32.ofNat i6))] [.int v9, .int (Int32.ofNat i6), .ref 129] a6 (Qb (let z6 := itr (B_readsRudder_36) 0 ((z1 124 2).toNatClampNeg) z1; let v10 := z6 124 2; ((-1), (uset z6 123 7 v10))))) (F_rudderBy a6 (F_byteAt_2 a6 (Int32.ofNat i6))) (fun v9 e9 => ?_)
      refine UP.ast (e := i6) rfl rfl (by omega) ?_
      show UP m_X7_readsRudder 51 [some (.ref 123), some (.int (Int32.ofNat i6))] [] (uset a6 129 i6 v9) (Qb (let z6 := itr (B_readsRudder_36) 0 ((z1 124 2).toNatClampNeg) z1; let v10 := z6 124 2; ((-1), (uset z6 123 7 v10))))
      refine UP.stp 2 (i1 := 36) (L1 := [some (.ref 123), some (.int ((Int32.ofNat i6) + 1))]) (st1 := []) (s1 := (uset a6 129 i6 v9)) rfl ?_
      subst e9
      rw [ofn_s]
      try dsimp only [B_readsRudder_36] at kk
      exact kk
    refine UP.stp 5 (i1 := 41) (L1 := [some (.ref 123), some (.int (Int32.ofNat ((z1 124 2).toNatClampNeg)))]) (st1 := [.int (z6 124 2), .int (Int32.ofNat ((z1 124 2).toNatClampNeg))]) (s1 := z6) rfl ?_
    refine UP.icT rfl (by rw [(g6 124 2 rfl)]; exact ge_T _) ?_
    refine UP.stp 5 (i1 := 58) (L1 := [some (.ref 123), some (.int (Int32.ofNat ((z1 124 2).toNatClampNeg)))]) (st1 := [.int (z6 124 2), .ref 123]) (s1 := z6) rfl ?_
    refine nm (G := fun v10 => UP m_X7_readsRudder 58 [some (.ref 123), some (.int (Int32.ofNat ((z1 124 2).toNatClampNeg)))] [.int v10, .ref 123] z6 (Qb (let z6 := itr (B_readsRudder_36) 0 ((z1 124 2).toNatClampNeg) z1; let v10 := z6 124 2; ((-1), (uset z6 123 7 v10))))) (z6 124 2) (fun v10 e10 => ?_)
    refine UP.stp 2 (i1 := 60) (L1 := [some (.ref 123), some (.int (Int32.ofNat ((z1 124 2).toNatClampNeg)))]) (st1 := [.int (-1)]) (s1 := (uset z6 123 7 v10)) rfl ?_
    exact UP.ret (r := some (.int (-1))) rfl ⟨by subst e10 e6 e1; first | (dsimp only [F_readsRudder]; done) | (dsimp only; done) | rfl, by subst e10 e6 e1; first | (dsimp only [F_readsRudder]; done) | (dsimp only; done) | rfl⟩
