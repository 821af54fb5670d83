def W_firstAgroundWith : List (Nat × Nat × Option Nat) := [(16, 20, none), (22, 45, none), (46, 52, none), (15, 15, some 8), (59, 63, none), (65, 88, none), (89, 95, none), (58, 58, some 8), (53, 57, none), (96, 108, none), (0, 0, some 12), (0, 0, some 13)]
def F_firstAgroundWith (s : SG) (mask : Int32) : Int32 × SG := let v2 := bif m_cmp .eq (s 0 13) 0 then s else (uset (fil s 96 256 (-9)) 0 13 0); bif m_cmp .ne (F_isBelow v2 mask 256) 0 then (let v9 := bif m_cmp .ne (v2 96 mask.toNatClampNeg) (-9) then v2 else (uset (F_row_c v2 mask) 96 mask.toNatClampNeg (F_firstAground_b (F_row_c v2 mask))); (v9 96 mask.toNatClampNeg, v9)) else (((-1), v2))
set_option maxRecDepth 20000 in
set_option maxHeartbeats 200000 in
theorem fr_firstAgroundWith (s : SG) (mask : Int32)  : Fr W_firstAgroundWith s (F_firstAgroundWith s mask).2 := by dsimp only [F_firstAgroundWith]; exact (let v2 : SG := bif m_cmp .eq (s 0 13) 0 then s else (uset (fil s 96 256 (-9)) 0 13 0); (Fr.bifp (b := m_cmp .ne (F_isBelow v2 mask 256) 0) (x := let v9 := bif m_cmp .ne (v2 96 mask.toNatClampNeg) (-9) then v2 else (uset (F_row_c v2 mask) 96 mask.toNatClampNeg (F_firstAground_b (F_row_c v2 mask))); (v9 96 mask.toNatClampNeg, v9)) (y := ((-1), v2)) (fun x : Int32 × SG => x.2) (by (try dsimp only); exact (Fr.bif (b := m_cmp .ne (v2 96 mask.toNatClampNeg) (-9)) (s1 := v2) (s2 := (uset (F_row_c v2 mask) 96 mask.toNatClampNeg (F_firstAground_b (F_row_c v2 mask)))) (Fr.bif (b := m_cmp .eq (s 0 13) 0) (s1 := s) (s2 := (uset (fil s 96 256 (-9)) 0 13 0)) (Fr.rf _ _) (Fr.uset (s1 := (fil s 96 256 (-9))) (a := 0) (j := 13) (x := 0) (by rfl) (Fr.fil (by rfl) (Fr.rf _ _)))) (Fr.uset (s1 := (F_row_c v2 mask)) (a := 96) (j := mask.toNatClampNeg) (x := (F_firstAground_b (F_row_c v2 mask))) (by rfl) (Fr.tr (s1 := v2) (Fr.bif (b := m_cmp .eq (s 0 13) 0) (s1 := s) (s2 := (uset (fil s 96 256 (-9)) 0 13 0)) (Fr.rf _ _) (Fr.uset (s1 := (fil s 96 256 (-9))) (a := 0) (j := 13) (x := 0) (by rfl) (Fr.fil (by rfl) (Fr.rf _ _)))) (Fr.wk (W2 := W_firstAgroundWith) (fr_row_c v2 mask) (by rfl)))))) (by (try dsimp only); exact (Fr.bif (b := m_cmp .eq (s 0 13) 0) (s1 := s) (s2 := (uset (fil s 96 256 (-9)) 0 13 0)) (Fr.rf _ _) (Fr.uset (s1 := (fil s 96 256 (-9))) (a := 0) (j := 13) (x := 0) (by rfl) (Fr.fil (by rfl) (Fr.rf _ _)))))))
set_option maxRecDepth 20000 in
set_option maxHeartbeats 200000 in
theorem ux_firstAgroundWith (s : SG) (mask : Int32)  : UP m_X6_firstAgroundWith 0 (m_ent 2 [.ref 0, .int mask]) [] s (Qb (F_firstAgroundWith s mask)) := by
  refine UP.stp 2 (i1 := 2) (L1 := [some (.ref 0), some (.int mask)]) (st1 := [.int (s 0 13)]) (s1 := s) rfl ?_
  refine mrg (m_cmp .eq (s 0 13) 0) s (uset (fil s 96 256 (-9)) 0 13 0) (fun v2 : SG => UP m_X6_firstAgroundWith 10 [some (.ref 0), some (.int mask)] [] v2 (Qb (F_firstAgroundWith s mask))) (fun cc kk => ?_) (fun cc kk => ?_) (fun v2 e2 => ?_)
  · skip
    refine UP.ifT rfl cc ?_
    exact kk
  · skip
    refine UP.ifF rfl cc ?_
    refine UP.stp 3 (i1 := 6) (L1 := [some (.ref 0), some (.int mask)]) (st1 := [.int (-9), .ref 96]) (s1 := s) rfl ?_
    refine UP.cV (M1 := m_J7_fill_53178) (as := [.ref 96, .int (-9)]) (rest := []) (T := fil s 96 256 (-9)) rfl rfl (ux_fill s 96 (-9) 256 rfl (by decide)) (fun z1 e1 => ?_)
    refine UP.stp 3 (i1 := 10) (L1 := [some (.ref 0), some (.int mask)]) (st1 := []) (s1 := (uset z1 0 13 0)) rfl ?_
    subst e1
    exact kk
  refine UP.stp 4 (i1 := 14) (L1 := [some (.ref 0), some (.int mask)]) (st1 := [.int 256, .int mask]) (s1 := v2) rfl ?_
  refine UP.cI (M1 := m_X6_isBelow) (as := [.int mask, .int 256]) (rest := []) (T := F_isBelow v2 mask 256) rfl rfl (ux_isBelow v2 mask 256) ?_
  refine UP.spl (m_cmp .ne (F_isBelow v2 mask 256) 0) (let v9 := bif m_cmp .ne (v2 96 mask.toNatClampNeg) (-9) then v2 else (uset (F_row_c v2 mask) 96 mask.toNatClampNeg (F_firstAground_b (F_row_c v2 mask))); (v9 96 mask.toNatClampNeg, v9)) (((-1), v2)) (by subst e2; first | (dsimp only [F_firstAgroundWith]; done) | (dsimp only; done) | rfl) (fun cc => ?_) (fun cc => ?_)
  · skip
    refine UP.ifT rfl cc ?_
    refine UP.stp 5 (i1 := 23) (L1 := [some (.ref 0), some (.int mask)]) (st1 := [.int (-9), .int (v2 96 mask.toNatClampNeg)]) (s1 := v2) rfl ?_
    refine mrg (m_cmp .ne (v2 96 mask.toNatClampNeg) (-9)) v2 (uset (F_row_c v2 mask) 96 mask.toNatClampNeg (F_firstAground_b (F_row_c v2 mask))) (fun v9 : SG => UP m_X6_firstAgroundWith 39 [some (.ref 0), some (.int mask)] [] v9 (Qb (let v9 := bif m_cmp .ne (v2 96 mask.toNatClampNeg) (-9) then v2 else (uset (F_row_c v2 mask) 96 mask.toNatClampNeg (F_firstAground_b (F_row_c v2 mask))); (v9 96 mask.toNatClampNeg, v9)))) (fun cc kk => ?_) (fun cc kk => ?_) (fun v9 e9 => ?_)
    · skip
      refine UP.icT rfl cc ?_
      exact kk
    · skip
      refine UP.icF rfl cc ?_
      refine UP.stp 7 (i1 := 31) (L1 := [some (.ref 0), some (.int mask)]) (st1 := [.int mask, .ref 2, .ref 10, .ref 58]) (s1 := v2) rfl ?_
      refine UP.cV (M1 := m_X5_row) (as := [.ref 58, .ref 10, .ref 2, .int mask]) (rest := []) (T := F_row_c v2 mask) rfl rfl (ux_row_c v2 mask) (fun z6 e6 => ?_)
      refine UP.stp 5 (i1 := 37) (L1 := [some (.ref 0), some (.int mask)]) (st1 := [.ref 58, .int mask, .ref 96]) (s1 := z6) rfl ?_
      refine UP.cI (M1 := m_X5_firstAground) (as := [.ref 58]) (rest := [.int mask, .ref 96]) (T := F_firstAground_b z6 ) rfl rfl (ux_firstAground_b z6) ?_
      refine nm (G := fun v8 => UP m_X6_firstAgroundWith 38 [some (.ref 0), some (.int mask)] [.int v8, .int mask, .ref 96] z6 (Qb (let v9 := bif m_cmp .ne (v2 96 mask.toNatClampNeg) (-9) then v2 else (uset (F_row_c v2 mask) 96 mask.toNatClampNeg (F_firstAground_b (F_row_c v2 mask))); (v9 96 mask.toNatClampNeg, v9)))) (F_firstAground_b z6) (fun v8 e8 => ?_)
      refine UP.stp 1 (i1 := 39) (L1 := [some (.ref 0), some (.int mask)]) (st1 := []) (s1 := (uset z6 96 mask.toNatClampNeg v8)) rfl ?_
      subst e8 e6
      exact kk
    refine UP.stp 4 (i1 := 43) (L1 := [some (.ref 0), some (.int mask)]) (st1 := [.int (v9 96 mask.toNatClampNeg)]) (s1 := v9) rfl ?_
    exact UP.ret (r := some (.int (v9 96 mask.toNatClampNeg))) rfl ⟨by subst e9 e2; first | (dsimp only [F_firstAgroundWith]; done) | (dsimp only; done) | rfl, by subst e9 e2; first | (dsimp only [F_firstAgroundWith]; done) | (dsimp only; done) | rfl⟩
  · skip
    refine UP.ifF rfl cc ?_
    refine UP.stp 1 (i1 := 17) (L1 := [some (.ref 0), some (.int mask)]) (st1 := [.int (-1)]) (s1 := v2) rfl ?_
    exact UP.ret (r := some (.int (-1))) rfl ⟨by subst e2; first | (dsimp only [F_firstAgroundWith]; done) | (dsimp only; done) | rfl, by subst e2; first | (dsimp only [F_firstAgroundWith]; done) | (dsimp only; done) | rfl⟩
def W_ithBit : List (Nat × Nat × Option Nat) := []
def B_ithBit_4 (bits : Int32) (i : Int32) (s : SG) (i1 : Nat) (a1 : Int32) : (Int32) ⊕ (Int32) := bif m_cmp .eq (F_hasBit s bits (Int32.ofNat i1)) 0 then (.inl a1) else (bif m_cmp .ne a1 i then (.inl (a1 + 1)) else (.inr (Int32.ofNat i1)))
def F_ithBit (s : SG) (bits : Int32) (i : Int32) : Int32 := Sum.elim (fun z1 : Int32 => (-1)) (fun x : Nat × (Int32) => x.2) (itx (B_ithBit_4 bits i s) 0 8 (0 : Int32))
set_option maxRecDepth 20000 in
set_option maxHeartbeats 200000 in
theorem ux_ithBit (s : SG) (bits : Int32) (i : Int32)  : UP m_X6_ithBit 0 (m_ent 4 [.int bits, .int i]) [] s (Qi s (F_ithBit s bits i)) := by
  refine UP.stp 4 (i1 := 4) (L1 := [some (.int bits), some (.int i), some (.int 0), some (.int 0)]) (st1 := []) (s1 := s) rfl ?_
  refine lpx (fun (i1 : Nat) (a1 : Int32) => UP m_X6_ithBit 4 [some (.int bits), some (.int i), some (.int a1), some (.int (Int32.ofNat i1))] [] s (Qi s (F_ithBit s bits i))) (fun (_ : Nat) (b1 : Int32) => (F_ithBit s bits i) = b1) (fun (_ : Nat) (a1 : Int32) => Fr W_ithBit s s) (B_ithBit_4 bits i s) (8) (fun i1 a1 x1 hi1 g1 e => g1) (fun i1 a1 hi1 g1 kk => ?_) 8 (0) (0 : Int32) (by omega) (Fr.rf _ _) (fun z1 e1 g1 => ?_) (fun i1 a1 b1 e1 hi1 g1 f1 => by have q : (F_ithBit s bits i) = Sum.elim (fun z1 : Int32 => (-1)) (fun x : Nat × (Int32) => x.2) (itx (B_ithBit_4 bits i s) 0 8 (0 : Int32)) := (by first | (dsimp only [F_ithBit]; done) | (dsimp only; done) | rfl); rw [q, e1]; first | (dsimp only [Sum.elim_inr]; done) | rfl)
  · skip
    refine UP.stp 2 (i1 := 6) (L1 := [some (.int bits), some (.int i), some (.int a1), some (.int (Int32.ofNat i1))]) (st1 := [.int 8, .int (Int32.ofNat i1)]) (s1 := s) rfl ?_
    refine UP.icF rfl (ge_F (show i1 < (8 : Int32).toNatClampNeg from hi1)) ?_
    refine UP.stp 2 (i1 := 9) (L1 := [some (.int bits), some (.int i), some (.int a1), some (.int (Int32.ofNat i1))]) (st1 := [.int (Int32.ofNat i1), .int bits]) (s1 := s) rfl ?_
    refine UP.cI (M1 := m_X6_hasBit) (as := [.int bits, .int (Int32.ofNat i1)]) (rest := []) (T := F_hasBit s bits (Int32.ofNat i1)) rfl rfl (ux_hasBit s bits (Int32.ofNat i1)) ?_
    refine brk (K := (Kx (fun (i1 : Nat) (a1 : Int32) => UP m_X6_ithBit 4 [some (.int bits), some (.int i), some (.int a1), some (.int (Int32.ofNat i1))] [] s (Qi s (F_ithBit s bits i))) (fun (_ : Nat) (b1 : Int32) => (F_ithBit s bits i) = b1) i1)) (m_cmp .eq (F_hasBit s bits (Int32.ofNat i1)) 0) (.inl a1) (bif m_cmp .ne a1 i then (.inl (a1 + 1)) else (.inr (Int32.ofNat i1))) (by (try dsimp only [B_ithBit_4] at kk ⊢); exact kk) (fun cc kk => ?_) (fun cc kk => ?_)
    · skip
      refine UP.ifT rfl cc ?_
      refine UP.stp 2 (i1 := 4) (L1 := [some (.int bits), some (.int i), some (.int a1), some (.int ((Int32.ofNat i1) + 1))]) (st1 := []) (s1 := s) rfl ?_
      rw [ofn_s]
      exact kk
    · skip
      refine UP.ifF rfl cc ?_
      refine UP.stp 2 (i1 := 13) (L1 := [some (.int bits), some (.int i), some (.int a1), some (.int (Int32.ofNat i1))]) (st1 := [.int i, .int a1]) (s1 := s) rfl ?_
      refine brk (K := (Kx (fun (i1 : Nat) (a1 : Int32) => UP m_X6_ithBit 4 [some (.int bits), some (.int i), some (.int a1), some (.int (Int32.ofNat i1))] [] s (Qi s (F_ithBit s bits i))) (fun (_ : Nat) (b1 : Int32) => (F_ithBit s bits i) = b1) i1)) (m_cmp .ne a1 i) (.inl (a1 + 1)) (.inr (Int32.ofNat i1)) (by (try dsimp only [B_ithBit_4] at kk ⊢); exact kk) (fun cc kk => ?_) (fun cc kk => ?_)
      · skip
        refine UP.icT rfl cc ?_
        refine UP.stp 3 (i1 := 4) (L1 := [some (.int bits), some (.int i), some (.int (a1 + 1)), some (.int ((Int32.ofNat i1) + 1))]) (st1 := []) (s1 := s) rfl ?_
        rw [ofn_s]
        exact kk
      · skip
        refine UP.icF rfl cc ?_
        refine UP.stp 1 (i1 := 15) (L1 := [some (.int bits), some (.int i), some (.int a1), some (.int (Int32.ofNat i1))]) (st1 := [.int (Int32.ofNat i1)]) (s1 := s) rfl ?_
        have kk : (F_ithBit s bits i) = Int32.ofNat i1 := by exact kk
        exact UP.ret (r := some (.int (Int32.ofNat i1))) rfl ⟨by rw [kk], rfl⟩
  · skip
    refine UP.eqT ((-1)) (by have q : (F_ithBit s bits i) = Sum.elim (fun z1 : Int32 => (-1)) (fun x : Nat × (Int32) => x.2) (itx (B_ithBit_4 bits i s) 0 8 (0 : Int32)) := (by first | (dsimp only [F_ithBit]; done) | (dsimp only; done) | rfl); rw [q, e1]; first | (dsimp only [Sum.elim_inl]; done) | rfl) ?_
    refine UP.stp 2 (i1 := 6) (L1 := [some (.int bits), some (.int i), some (.int z1), some (.int (Int32.ofNat 8))]) (st1 := [.int 8, .int (Int32.ofNat 8)]) (s1 := s) rfl ?_
    refine UP.icT rfl (ge_T (8 : Int32)) ?_
    refine UP.stp 1 (i1 := 20) (L1 := [some (.int bits), some (.int i), some (.int z1), some (.int (Int32.ofNat 8))]) (st1 := [.int (-1)]) (s1 := s) rfl ?_
    exact UP.ret (r := some (.int (-1))) rfl ⟨by first | (dsimp only [F_ithBit]; done) | (dsimp only; done) | rfl, by first | (dsimp only [F_ithBit]; done) | (dsimp only; done) | rfl⟩
