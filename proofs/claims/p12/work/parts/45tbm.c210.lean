def W_cask : List (Nat × Nat × Option Nat) := [(16, 20, none), (22, 45, none), (46, 52, none), (15, 15, some 8), (59, 63, none), (65, 88, none), (89, 95, none), (58, 58, some 8), (54, 57, none), (53, 53, none), (96, 108, none), (0, 0, some 12), (0, 0, some 13)]
def B_cask_16 (z4 : Int32 × SG) (i5 : Nat) (a5 : SG × Int32 × Int32) : SG × Int32 × Int32 := let z6 := F_mostAtOnePlace a5.1 z4.1 (Int32.ofNat i5); let w7 := bif m_cmp .ge z6.1 a5.2.2 then (a5.2.1, a5.2.2) else (Int32.ofNat i5, z6.1); (z6.2, w7.1, w7.2)
theorem fr_B_cask_16 (z4 : Int32 × SG) (i5 : Nat) (a5 : SG × Int32 × Int32)  (hi5 : i5 < 24) : Fr W_cask a5.1 ((B_cask_16 z4) i5 a5).1 := by dsimp only [B_cask_16]; exact (Fr.tr (s1 := a5.1) (Fr.rf _ _) (Fr.wk (W2 := W_cask) (fr_mostAtOnePlace a5.1 z4.1 (Int32.ofNat i5)) (by rfl)))
def F_cask (s : SG) (seat : Int32) : Int32 × SG := bif m_cmp .ne (F_cisRower s seat) 0 then (let z4 := F_possiblePowers s seat; let z5 := itr (B_cask_16 z4) 0 24 (z4.2, 0, 10); (z5.2.1, z5.1)) else (((-2), s))
theorem fr_cask (s : SG) (seat : Int32)  : Fr W_cask s (F_cask s seat).2 := by dsimp only [F_cask]; exact (Fr.bifp (b := m_cmp .ne (F_cisRower s seat) 0) (x := let z4 := F_possiblePowers s seat; let z5 := itr (B_cask_16 z4) 0 24 (z4.2, 0, 10); (z5.2.1, z5.1)) (y := ((-2), s)) (fun x : Int32 × SG => x.2) (let z4 : Int32 × SG := F_possiblePowers s seat; (frItrB (W := W_cask) (m := (fun x : SG × Int32 × Int32 => x.1)) 24 (fun i a h => Fr.wk (W2 := W_cask) (fr_B_cask_16 z4 i a  h) (by rfl)) _ _ _ (by omega) (Fr.tr (s1 := s) (Fr.rf _ _) (Fr.wk (W2 := W_cask) (fr_possiblePowers s seat) (by rfl))))) (Fr.rf _ _))
theorem ux_cask (s : SG) (seat : Int32)  : UP m_X6_ask 0 (m_ent 7 [.ref 0, .int seat]) [] s (Qb (F_cask s seat)) := by
  refine UP.stp 2 (i1 := 2) (L1 := [some (.ref 0), some (.int seat), none, none, none, none, none]) (st1 := [.int seat, .ref 0]) (s1 := s) rfl ?_
  refine UP.cI (M1 := m_X6_isRower) (as := [.ref 0, .int seat]) (rest := []) (T := F_cisRower s seat) rfl rfl (ux_cisRower s seat) ?_
  refine UP.spl (m_cmp .ne (F_cisRower s seat) 0) (let z4 := F_possiblePowers s seat; let z5 := itr (B_cask_16 z4) 0 24 (z4.2, 0, 10); (z5.2.1, z5.1)) (((-2), s)) (by rfl) (fun cc => ?_) (fun cc => ?_)
  · skip
    refine UP.ifT rfl cc ?_
    refine UP.stp 2 (i1 := 8) (L1 := [some (.ref 0), some (.int seat), none, none, none, none, none]) (st1 := [.int seat, .ref 0]) (s1 := s) rfl ?_
    refine UP.cB (M1 := m_X6_possiblePowers) (as := [.ref 0, .int seat]) (rest := []) (T := F_possiblePowers s seat) rfl rfl (ux_possiblePowers s seat) (fun z4 e4 => ?_)
    refine UP.stp 7 (i1 := 16) (L1 := [some (.ref 0), some (.int seat), some (.int z4.1), some (.int 0), some (.int 10), some (.int 0), none]) (st1 := []) (s1 := z4.2) rfl ?_
    refine lp (fun (i5 : Nat) (a5 : SG × Int32 × Int32) => ∀ (u5_1 : Option Value) (u5_6 : Option Value), UP m_X6_ask 16 [some (.ref 0), u5_1, some (.int z4.1), some (.int a5.2.1), some (.int a5.2.2), some (.int (Int32.ofNat i5)), u5_6] [] a5.1 (Qb (let z4 := F_possiblePowers s seat; let z5 := itr (B_cask_16 z4) 0 24 (z4.2, 0, 10); (z5.2.1, z5.1)))) (fun (_ : Nat) (a5 : SG × Int32 × Int32) => Fr W_cask z4.2 a5.1) (B_cask_16 z4) (24) (fun i5 a5 hi5 g5 => g5.tr (fr_B_cask_16 z4 i5 a5 hi5)) (fun i5 a5 hi5 g5 kk => ?_) 24 (0) (z4.2, 0, 10) (by omega) (Fr.rf _ _) (fun z5 e5 g5 => ?_) (some (.int seat)) none
    · skip
      intro u5_1 u5_6
      refine UP.stp 2 (i1 := 18) (L1 := [some (.ref 0), u5_1, some (.int z4.1), some (.int a5.2.1), some (.int a5.2.2), some (.int (Int32.ofNat i5)), u5_6]) (st1 := [.int 24, .int (Int32.ofNat i5)]) (s1 := a5.1) rfl ?_
      refine UP.icF rfl (ge_F (show i5 < (24 : Int32).toNatClampNeg from hi5)) ?_
      refine UP.stp 3 (i1 := 22) (L1 := [some (.ref 0), u5_1, some (.int z4.1), some (.int a5.2.1), some (.int a5.2.2), some (.int (Int32.ofNat i5)), u5_6]) (st1 := [.int (Int32.ofNat i5), .int z4.1, .ref 0]) (s1 := a5.1) rfl ?_
      refine UP.cB (M1 := m_X6_mostAtOnePlace) (as := [.ref 0, .int z4.1, .int (Int32.ofNat i5)]) (rest := []) (T := F_mostAtOnePlace a5.1 z4.1 (Int32.ofNat i5)) rfl rfl (ux_mostAtOnePlace a5.1 z4.1 (Int32.ofNat i5)) (fun z6 e6 => ?_)
      refine UP.stp 3 (i1 := 26) (L1 := [some (.ref 0), u5_1, some (.int z4.1), some (.int a5.2.1), some (.int a5.2.2), some (.int (Int32.ofNat i5)), some (.int z6.1)]) (st1 := [.int a5.2.2, .int z6.1]) (s1 := z6.2) rfl ?_
      refine mrg (m_cmp .ge z6.1 a5.2.2) (a5.2.1, a5.2.2) (Int32.ofNat i5, z6.1) (fun w7 : Int32 × Int32 => UP m_X6_ask 31 [some (.ref 0), u5_1, some (.int z4.1), some (.int w7.1), some (.int w7.2), some (.int (Int32.ofNat i5)), some (.int z6.1)] [] z6.2 (Qb (let z4 := F_possiblePowers s seat; let z5 := itr (B_cask_16 z4) 0 24 (z4.2, 0, 10); (z5.2.1, z5.1)))) (fun cc kk => ?_) (fun cc kk => ?_) (fun w7 e7 => ?_)
      · skip
        refine UP.icT rfl cc ?_
        exact kk
      · skip
        refine UP.icF rfl cc ?_
        refine UP.stp 4 (i1 := 31) (L1 := [some (.ref 0), u5_1, some (.int z4.1), some (.int (Int32.ofNat i5)), some (.int z6.1), some (.int (Int32.ofNat i5)), some (.int z6.1)]) (st1 := []) (s1 := z6.2) rfl ?_
        exact kk
      refine UP.stp 2 (i1 := 16) (L1 := [some (.ref 0), u5_1, some (.int z4.1), some (.int w7.1), some (.int w7.2), some (.int ((Int32.ofNat i5) + 1)), some (.int z6.1)]) (st1 := []) (s1 := z6.2) rfl ?_
      subst e7 e6
      rw [ofn_s]
      exact kk _ _
    intro u5_1 u5_6
    refine UP.stp 2 (i1 := 18) (L1 := [some (.ref 0), u5_1, some (.int z4.1), some (.int z5.2.1), some (.int z5.2.2), some (.int (Int32.ofNat 24)), u5_6]) (st1 := [.int 24, .int (Int32.ofNat 24)]) (s1 := z5.1) rfl ?_
    refine UP.icT rfl (ge_T (24 : Int32)) ?_
    refine UP.stp 1 (i1 := 34) (L1 := [some (.ref 0), u5_1, some (.int z4.1), some (.int z5.2.1), some (.int z5.2.2), some (.int (Int32.ofNat 24)), u5_6]) (st1 := [.int z5.2.1]) (s1 := z5.1) rfl ?_
    exact UP.ret (r := some (.int z5.2.1)) rfl ⟨by subst e5 e4; rfl, by subst e5 e4; rfl⟩
  · skip
    refine UP.ifF rfl cc ?_
    refine UP.stp 1 (i1 := 5) (L1 := [some (.ref 0), some (.int seat), none, none, none, none, none]) (st1 := [.int (-2)]) (s1 := s) rfl ?_
    exact UP.ret (r := some (.int (-2))) rfl ⟨by rfl, by rfl⟩
def W_firstAgroundWith : List (Nat × Nat × Option Nat) := [(16, 20, none), (22, 45, none), (46, 52, none), (15, 15, some 8), (59, 63, none), (65, 88, none), (89, 95, none), (58, 58, some 8), (54, 57, none), (53, 53, none), (96, 108, none), (0, 0, some 12), (0, 0, some 13)]
def F_firstAgroundWith (s : SG) (mask : Int32) : Int32 × SG := let v2 := bif m_cmp .eq (s 0 13) 0 then s else (uset (fil s 96 256 (-9)) 0 13 0); bif m_cmp .ne (F_isBelow v2 mask 256) 0 then (let v9 := bif m_cmp .ne (v2 96 mask.toNatClampNeg) (-9) then v2 else (uset (F_row_c v2 mask) 96 mask.toNatClampNeg (F_firstAground_b (F_row_c v2 mask))); (v9 96 mask.toNatClampNeg, v9)) else (((-1), v2))
theorem fr_firstAgroundWith (s : SG) (mask : Int32)  : Fr W_firstAgroundWith s (F_firstAgroundWith s mask).2 := by dsimp only [F_firstAgroundWith]; exact (let v2 : SG := bif m_cmp .eq (s 0 13) 0 then s else (uset (fil s 96 256 (-9)) 0 13 0); (Fr.bifp (b := m_cmp .ne (F_isBelow v2 mask 256) 0) (x := let v9 := bif m_cmp .ne (v2 96 mask.toNatClampNeg) (-9) then v2 else (uset (F_row_c v2 mask) 96 mask.toNatClampNeg (F_firstAground_b (F_row_c v2 mask))); (v9 96 mask.toNatClampNeg, v9)) (y := ((-1), v2)) (fun x : Int32 × SG => x.2) (Fr.bif (b := m_cmp .ne (v2 96 mask.toNatClampNeg) (-9)) (s1 := v2) (s2 := (uset (F_row_c v2 mask) 96 mask.toNatClampNeg (F_firstAground_b (F_row_c v2 mask)))) (Fr.bif (b := m_cmp .eq (s 0 13) 0) (s1 := s) (s2 := (uset (fil s 96 256 (-9)) 0 13 0)) (Fr.rf _ _) (Fr.uset (s1 := (fil s 96 256 (-9))) (a := 0) (j := 13) (x := 0) (by rfl) (Fr.fil (by rfl) (Fr.rf _ _)))) (Fr.uset (s1 := (F_row_c v2 mask)) (a := 96) (j := mask.toNatClampNeg) (x := (F_firstAground_b (F_row_c v2 mask))) (by rfl) (Fr.tr (s1 := v2) (Fr.bif (b := m_cmp .eq (s 0 13) 0) (s1 := s) (s2 := (uset (fil s 96 256 (-9)) 0 13 0)) (Fr.rf _ _) (Fr.uset (s1 := (fil s 96 256 (-9))) (a := 0) (j := 13) (x := 0) (by rfl) (Fr.fil (by rfl) (Fr.rf _ _)))) (Fr.wk (W2 := W_firstAgroundWith) (fr_row_c v2 mask) (by rfl))))) (Fr.bif (b := m_cmp .eq (s 0 13) 0) (s1 := s) (s2 := (uset (fil s 96 256 (-9)) 0 13 0)) (Fr.rf _ _) (Fr.uset (s1 := (fil s 96 256 (-9))) (a := 0) (j := 13) (x := 0) (by rfl) (Fr.fil (by rfl) (Fr.rf _ _))))))
theorem ux_firstAgroundWith (s : SG) (mask : Int32)  : UP m_X6_firstAgroundWith 0 (m_ent 2 [.ref 0, .int mask]) [] s (Qb (F_firstAgroundWith s mask)) := by
  refine UP.stp 2 (i1 := 2) (L1 := [some (.ref 0), some (.int mask)]) (st1 := [.int (s 0 13)]) (s1 := s) rfl ?_
  refine mrg (m_cmp .eq (s 0 13) 0) s (uset (fil s 96 256 (-9)) 0 13 0) (fun v2 : SG => UP m_X6_firstAgroundWith 10 [some (.ref 0), some (.int mask)] [] v2 (Qb (F_firstAgroundWith s mask))) (fun cc kk => ?_) (fun cc kk => ?_) (fun v2 e2 => ?_)
  · skip
    refine UP.ifT rfl cc ?_
    exact kk
  · skip
    refine UP.ifF rfl cc ?_
    refine UP.stp 3 (i1 := 6) (L1 := [some (.ref 0), some (.int mask)]) (st1 := [.int (-9), .ref 96]) (s1 := s) rfl ?_
    refine UP.cV (M1 := m_J7_fill_53178) (as := [.ref 96, .int (-9)]) (rest := []) (T := fil s 96 256 (-9)) rfl rfl (ux_fill s 96 (-9) 256 rfl (by decide)) (fun z1 e1 => ?_)
    refine UP.stp 3 (i1 := 10) (L1 := [some (.ref 0), some (.int mask)]) (st1 := []) (s1 := (uset z1 0 13 0)) rfl ?_
    subst e1
    exact kk
  refine UP.stp 4 (i1 := 14) (L1 := [some (.ref 0), some (.int mask)]) (st1 := [.int 256, .int mask]) (s1 := v2) rfl ?_
  refine UP.cI (M1 := m_X6_isBelow) (as := [.int mask, .int 256]) (rest := []) (T := F_isBelow v2 mask 256) rfl rfl (ux_isBelow v2 mask 256) ?_
  refine UP.spl (m_cmp .ne (F_isBelow v2 mask 256) 0) (let v9 := bif m_cmp .ne (v2 96 mask.toNatClampNeg) (-9) then v2 else (uset (F_row_c v2 mask) 96 mask.toNatClampNeg (F_firstAground_b (F_row_c v2 mask))); (v9 96 mask.toNatClampNeg, v9)) (((-1), v2)) (by subst e2; rfl) (fun cc => ?_) (fun cc => ?_)
  · skip
    refine UP.ifT rfl cc ?_
    refine UP.stp 5 (i1 := 23) (L1 := [some (.ref 0), some (.int mask)]) (st1 := [.int (-9), .int (v2 96 mask.toNatClampNeg)]) (s1 := v2) rfl ?_
    refine mrg (m_cmp .ne (v2 96 mask.toNatClampNeg) (-9)) v2 (uset (F_row_c v2 mask) 96 mask.toNatClampNeg (F_firstAground_b (F_row_c v2 mask))) (fun v9 : SG => UP m_X6_firstAgroundWith 39 [some (.ref 0), some (.int mask)] [] v9 (Qb (let v9 := bif m_cmp .ne (v2 96 mask.toNatClampNeg) (-9) then v2 else (uset (F_row_c v2 mask) 96 mask.toNatClampNeg (F_firstAground_b (F_row_c v2 mask))); (v9 96 mask.toNatClampNeg, v9)))) (fun cc kk => ?_) (fun cc kk => ?_) (fun v9 e9 => ?_)
    · skip
      refine UP.icT rfl cc ?_
      exact kk
    · skip
      refine UP.icF rfl cc ?_
      refine UP.stp 7 (i1 := 31) (L1 := [some (.ref 0), some (.int mask)]) (st1 := [.int mask, .ref 2, .ref 10, .ref 58]) (s1 := v2) rfl ?_
      refine UP.cV (M1 := m_X5_row) (as := [.ref 58, .ref 10, .ref 2, .int mask]) (rest := []) (T := F_row_c v2 mask) rfl rfl (ux_row_c v2 mask) (fun z6 e6 => ?_)
      refine UP.stp 5 (i1 := 37) (L1 := [some (.ref 0), some (.int mask)]) (st1 := [.ref 58, .int mask, .ref 96]) (s1 := z6) rfl ?_
      refine UP.cI (M1 := m_X5_firstAground) (as := [.ref 58]) (rest := [.int mask, .ref 96]) (T := F_firstAground_b z6 ) rfl rfl (ux_firstAground_b z6) ?_
      refine nm (G := fun v8 => UP m_X6_firstAgroundWith 38 [some (.ref 0), some (.int mask)] [.int v8, .int mask, .ref 96] z6 (Qb (let v9 := bif m_cmp .ne (v2 96 mask.toNatClampNeg) (-9) then v2 else (uset (F_row_c v2 mask) 96 mask.toNatClampNeg (F_firstAground_b (F_row_c v2 mask))); (v9 96 mask.toNatClampNeg, v9)))) (F_firstAground_b z6) (fun v8 e8 => ?_)
      refine UP.stp 1 (i1 := 39) (L1 := [some (.ref 0), some (.int mask)]) (st1 := []) (s1 := (uset z6 96 mask.toNatClampNeg v8)) rfl ?_
      subst e8 e6
      exact kk
    refine UP.stp 4 (i1 := 43) (L1 := [some (.ref 0), some (.int mask)]) (st1 := [.int (v9 96 mask.toNatClampNeg)]) (s1 := v9) rfl ?_
    exact UP.ret (r := some (.int (v9 96 mask.toNatClampNeg))) rfl ⟨by subst e9 e2; rfl, by subst e9 e2; rfl⟩
  · skip
    refine UP.ifF rfl cc ?_
    refine UP.stp 1 (i1 := 17) (L1 := [some (.ref 0), some (.int mask)]) (st1 := [.int (-1)]) (s1 := v2) rfl ?_
    exact UP.ret (r := some (.int (-1))) rfl ⟨by subst e2; rfl, by subst e2; rfl⟩
def W_ithBit : List (Nat × Nat × Option Nat) := []
def B_ithBit_4 (bits : Int32) (i : Int32) (s : SG) (i1 : Nat) (a1 : Int32) : (Int32) ⊕ (Int32) := bif m_cmp .eq (F_hasBit s bits (Int32.ofNat i1)) 0 then (.inl a1) else (bif m_cmp .ne a1 i then (.inl (a1 + 1)) else (.inr (Int32.ofNat i1)))
def F_ithBit (s : SG) (bits : Int32) (i : Int32) : Int32 := Sum.elim (fun z1 : Int32 => (-1)) (fun x : Nat × (Int32) => x.2) (itx (B_ithBit_4 bits i s) 0 8 (0 : Int32))
theorem ux_ithBit (s : SG) (bits : Int32) (i : Int32)  : UP m_X6_ithBit 0 (m_ent 4 [.int bits, .int i]) [] s (Qi s (F_ithBit s bits i)) := by
  refine UP.stp 4 (i1 := 4) (L1 := [some (.int bits), some (.int i), some (.int 0), some (.int 0)]) (st1 := []) (s1 := s) rfl ?_
  refine lpx (fun (i1 : Nat) (a1 : Int32) => UP m_X6_ithBit 4 [some (.int bits), some (.int i), some (.int a1), some (.int (Int32.ofNat i1))] [] s (Qi s (F_ithBit s bits i))) (fun (_ : Nat) (b1 : Int32) => (F_ithBit s bits i) = b1) (fun (_ : Nat) (a1 : Int32) => Fr W_ithBit s s) (B_ithBit_4 bits i s) (8) (fun i1 a1 x1 hi1 g1 e => g1) (fun i1 a1 hi1 g1 kk => ?_) 8 (0) (0 : Int32) (by omega) (Fr.rf _ _) (fun z1 e1 g1 => ?_) (fun i1 a1 b1 e1 hi1 g1 f1 => by have q : (F_ithBit s bits i) = Sum.elim (fun z1 : Int32 => (-1)) (fun x : Nat × (Int32) => x.2) (itx (B_ithBit_4 bits i s) 0 8 (0 : Int32)) := (by rfl); rw [q, e1]; rfl)
  · skip
    refine UP.stp 2 (i1 := 6) (L1 := [some (.int bits), some (.int i), some (.int a1), some (.int (Int32.ofNat i1))]) (st1 := [.int 8, .int (Int32.ofNat i1)]) (s1 := s) rfl ?_
    refine UP.icF rfl (ge_F (show i1 < (8 : Int32).toNatClampNeg from hi1)) ?_
    refine UP.stp 2 (i1 := 9) (L1 := [some (.int bits), some (.int i), some (.int a1), some (.int (Int32.ofNat i1))]) (st1 := [.int (Int32.ofNat i1), .int bits]) (s1 := s) rfl ?_
    refine UP.cI (M1 := m_X6_hasBit) (as := [.int bits, .int (Int32.ofNat i1)]) (rest := []) (T := F_hasBit s bits (Int32.ofNat i1)) rfl rfl (ux_hasBit s bits (Int32.ofNat i1)) ?_
    refine brk (K := (Kx (fun (i1 : Nat) (a1 : Int32) => UP m_X6_ithBit 4 [some (.int bits), some (.int i), some (.int a1), some (.int (Int32.ofNat i1))] [] s (Qi s (F_ithBit s bits i))) (fun (_ : Nat) (b1 : Int32) => (F_ithBit s bits i) = b1) i1)) (m_cmp .eq (F_hasBit s bits (Int32.ofNat i1)) 0) (.inl a1) (bif m_cmp .ne a1 i then (.inl (a1 + 1)) else (.inr (Int32.ofNat i1))) (by exact kk) (fun cc kk => ?_) (fun cc kk => ?_)
    · skip
      refine UP.ifT rfl cc ?_
      refine UP.stp 2 (i1 := 4) (L1 := [some (.int bits), some (.int i), some (.int a1), some (.int ((Int32.ofNat i1) + 1))]) (st1 := []) (s1 := s) rfl ?_
      rw [ofn_s]
      exact kk
    · skip
      refine UP.ifF rfl cc ?_
      refine UP.stp 2 (i1 := 13) (L1 := [some (.int bits), some (.int i), some (.int a1), some (.int (Int32.ofNat i1))]) (st1 := [.int i, .int a1]) (s1 := s) rfl ?_
      refine brk (K := (Kx (fun (i1 : Nat) (a1 : Int32) => UP m_X6_ithBit 4 [some (.int bits), some (.int i), some (.int a1), some (.int (Int32.ofNat i1))] [] s (Qi s (F_ithBit s bits i))) (fun (_ : Nat) (b1 : Int32) => (F_ithBit s bits i) = b1) i1)) (m_cmp .ne a1 i) (.inl (a1 + 1)) (.inr (Int32.ofNat i1)) (by exact kk) (fun cc kk => ?_) (fun cc kk => ?_)
      · skip
        refine UP.icT rfl cc ?_
        refine UP.stp 3 (i1 := 4) (L1 := [some (.int bits), some (.int i), some (.int (a1 + 1)), some (.int ((Int32.ofNat i1) + 1))]) (st1 := []) (s1 := s) rfl ?_
        rw [ofn_s]
        exact kk
      · skip
        refine UP.icF rfl cc ?_
        refine UP.stp 1 (i1 := 15) (L1 := [some (.int bits), some (.int i), some (.int a1), some (.int (Int32.ofNat i1))]) (st1 := [.int (Int32.ofNat i1)]) (s1 := s) rfl ?_
        have kk : (F_ithBit s bits i) = Int32.ofNat i1 := by exact kk
        exact UP.ret (r := some (.int (Int32.ofNat i1))) rfl ⟨by rw [kk], by rw [kk]⟩
  · skip
    refine UP.eqT ((-1)) (by have q : (F_ithBit s bits i) = Sum.elim (fun z1 : Int32 => (-1)) (fun x : Nat × (Int32) => x.2) (itx (B_ithBit_4 bits i s) 0 8 (0 : Int32)) := (by rfl); rw [q, e1]; rfl) ?_
    refine UP.stp 2 (i1 := 6) (L1 := [some (.int bits), some (.int i), some (.int z1), some (.int (Int32.ofNat 8))]) (st1 := [.int 8, .int (Int32.ofNat 8)]) (s1 := s) rfl ?_
    refine UP.icT rfl (ge_T (8 : Int32)) ?_
    refine UP.stp 1 (i1 := 20) (L1 := [some (.int bits), some (.int i), some (.int z1), some (.int (Int32.ofNat 8))]) (st1 := [.int (-1)]) (s1 := s) rfl ?_
    exact UP.ret (r := some (.int (-1))) rfl ⟨by rfl, by rfl⟩
def W_isAgroundBy : List (Nat × Nat × Option Nat) := [(16, 20, none), (22, 45, none), (46, 52, none), (15, 15, some 8), (59, 63, none), (65, 88, none), (89, 95, none), (58, 58, some 8), (54, 57, none), (53, 53, none), (96, 108, none), (0, 0, some 12), (0, 0, some 13)]
def F_isAgroundBy (s : SG) (minute : Int32) (mask : Int32) : Int32 × SG := let z1 := F_firstAgroundWith s mask; let v3 := bif m_cmp .eq z1.1 (-1) then (0 : Int32) else (bif m_cmp .gt z1.1 minute then (0 : Int32) else (1 : Int32)); (v3, z1.2)
theorem fr_isAgroundBy (s : SG) (minute : Int32) (mask : Int32)  : Fr W_isAgroundBy s (F_isAgroundBy s minute mask).2 := by dsimp only [F_isAgroundBy]; exact (Fr.tr (s1 := s) (Fr.rf _ _) (Fr.wk (W2 := W_isAgroundBy) (fr_firstAgroundWith s mask) (by rfl)))
theorem ux_isAgroundBy (s : SG) (minute : Int32) (mask : Int32)  : UP m_X6_isAgroundBy 0 (m_ent 4 [.ref 0, .int minute, .int mask]) [] s (Qb (F_isAgroundBy s minute mask)) := by
  refine UP.stp 2 (i1 := 2) (L1 := [some (.ref 0), some (.int minute), some (.int mask), none]) (st1 := [.int mask, .ref 0]) (s1 := s) rfl ?_
  refine UP.cB (M1 := m_X6_firstAgroundWith) (as := [.ref 0, .int mask]) (rest := []) (T := F_firstAgroundWith s mask) rfl rfl (ux_firstAgroundWith s mask) (fun z1 e1 => ?_)
  refine UP.stp 3 (i1 := 6) (L1 := [some (.ref 0), some (.int minute), some (.int mask), some (.int z1.1)]) (st1 := [.int (-1), .int z1.1]) (s1 := z1.2) rfl ?_
  refine mrg (m_cmp .eq z1.1 (-1)) (0 : Int32) (bif m_cmp .gt z1.1 minute then (0 : Int32) else (1 : Int32)) (fun v3 : Int32 => UP m_X6_isAgroundBy 13 [some (.ref 0), some (.int minute), some (.int mask), some (.int z1.1)] [.int v3] z1.2 (Qb (F_isAgroundBy s minute mask))) (fun cc kk => ?_) (fun cc kk => ?_) (fun v3 e3 => ?_)
  · skip
    refine UP.icT rfl cc ?_
    refine UP.stp 1 (i1 := 13) (L1 := [some (.ref 0), some (.int minute), some (.int mask), some (.int z1.1)]) (st1 := [.int 0]) (s1 := z1.2) rfl ?_
    exact kk
  · skip
    refine UP.icF rfl cc ?_
    refine UP.stp 2 (i1 := 9) (L1 := [some (.ref 0), some (.int minute), some (.int mask), some (.int z1.1)]) (st1 := [.int minute, .int z1.1]) (s1 := z1.2) rfl ?_
    refine mrg (m_cmp .gt z1.1 minute) (0 : Int32) (1 : Int32) (fun v2 : Int32 => UP m_X6_isAgroundBy 13 [some (.ref 0), some (.int minute), some (.int mask), some (.int z1.1)] [.int v2] z1.2 (Qb (F_isAgroundBy s minute mask))) (fun cc kk => ?_) (fun cc kk => ?_) (fun v2 e2 => ?_)
    · skip
      refine UP.icT rfl cc ?_
      refine UP.stp 1 (i1 := 13) (L1 := [some (.ref 0), some (.int minute), some (.int mask), some (.int z1.1)]) (st1 := [.int 0]) (s1 := z1.2) rfl ?_
      exact kk
    · skip
      refine UP.icF rfl cc ?_
      refine UP.stp 2 (i1 := 13) (L1 := [some (.ref 0), some (.int minute), some (.int mask), some (.int z1.1)]) (st1 := [.int 1]) (s1 := z1.2) rfl ?_
      exact kk
    subst e2
    exact kk
  exact UP.ret (r := some (.int v3)) rfl ⟨by subst e3 e1; rfl, by subst e3 e1; rfl⟩
def W_ccount : List (Nat × Nat × Option Nat) := []
def F_ccount (s : SG) (what : Int32) : Int32 := bif m_cmp .eq what 0 then (s 10 0) else (bif m_cmp .eq what 1 then (let v5 := bif m_cmp .ne (F_cfault_1 s) (-1) then (0 : Int32) else s 111 1; v5) else (bif m_cmp .eq what 2 then (let v9 := bif m_cmp .ne (F_cfault_2 s) (-1) then (0 : Int32) else s 113 1; v9) else (bif m_cmp .eq what 3 then (((s 109 1) + (s 111 1)) + (s 113 1)) else (bif m_cmp .eq what 4 then (s 2 3) else (bif m_cmp .eq what 5 then (s 10 5) else (bif m_cmp .eq what 6 then (s 10 6) else (bif m_cmp .eq what 7 then (s 6 2) else (bif m_cmp .eq what 8 then (s 0 4) else ((-2))))))))))
theorem ux_ccount (s : SG) (what : Int32)  : UP m_X6_count 0 (m_ent 2 [.ref 0, .int what]) [] s (Qi s (F_ccount s what)) := by
  refine UP.stp 1 (i1 := 1) (L1 := [some (.ref 0), some (.int what)]) (st1 := [.int what]) (s1 := s) rfl ?_
  refine UP.spl (m_cmp .eq what 0) (s 10 0) (bif m_cmp .eq what 1 then (let v5 := bif m_cmp .ne (F_cfault_1 s) (-1) then (0 : Int32) else s 111 1; v5) else (bif m_cmp .eq what 2 then (let v9 := bif m_cmp .ne (F_cfault_2 s) (-1) then (0 : Int32) else s 113 1; v9) else (bif m_cmp .eq what 3 then (((s 109 1) + (s 111 1)) + (s 113 1)) else (bif m_cmp .eq what 4 then (s 2 3) else (bif m_cmp .eq what 5 then (s 10 5) else (bif m_cmp .eq what 6 then (s 10 6) else (bif m_cmp .eq what 7 then (s 6 2) else (bif m_cmp .eq what 8 then (s 0 4) else ((-2)))))))))) (by rfl) (fun cs0 => ?_) (fun cs0 => ?_)
  · skip
    refine UP.swT 0 rfl cs0 (by decide) (by decide) ?_
    refine UP.stp 3 (i1 := 5) (L1 := [some (.ref 0), some (.int what)]) (st1 := [.int (s 10 0)]) (s1 := s) rfl ?_
    exact UP.ret (r := some (.int (s 10 0))) rfl ⟨by rfl, by rfl⟩
  · skip
    refine UP.spl (m_cmp .eq what 1) (let v5 := bif m_cmp .ne (F_cfault_1 s) (-1) then (0 : Int32) else s 111 1; v5) (bif m_cmp .eq what 2 then (let v9 := bif m_cmp .ne (F_cfault_2 s) (-1) then (0 : Int32) else s 113 1; v9) else (bif m_cmp .eq what 3 then (((s 109 1) + (s 111 1)) + (s 113 1)) else (bif m_cmp .eq what 4 then (s 2 3) else (bif m_cmp .eq what 5 then (s 10 5) else (bif m_cmp .eq what 6 then (s 10 6) else (bif m_cmp .eq what 7 then (s 6 2) else (bif m_cmp .eq what 8 then (s 0 4) else ((-2))))))))) (by rfl) (fun cs1 => ?_) (fun cs1 => ?_)
    · skip
      refine UP.swT 1 rfl cs1 (by decide) (by decide) ?_
      refine UP.stp 2 (i1 := 8) (L1 := [some (.ref 0), some (.int what)]) (st1 := [.int 1, .ref 0]) (s1 := s) rfl ?_
      refine UP.cI (M1 := m_X6_fault) (as := [.ref 0, .int 1]) (rest := []) (T := F_cfault_1 s ) rfl rfl (ux_cfault_1 s) ?_
      refine UP.stp 1 (i1 := 10) (L1 := [some (.ref 0), some (.int what)]) (st1 := [.int (-1), .int (F_cfault_1 s)]) (s1 := s) rfl ?_
      refine mrg (m_cmp .ne (F_cfault_1 s) (-1)) (0 : Int32) (s 111 1) (fun v5 : Int32 => UP m_X6_count 18 [some (.ref 0), some (.int what)] [.int v5] s (Qi s (let v5 := bif m_cmp .ne (F_cfault_1 s) (-1) then (0 : Int32) else s 111 1; v5))) (fun cc kk => ?_) (fun cc kk => ?_) (fun v5 e5 => ?_)
      · skip
        refine UP.icT rfl cc ?_
        refine UP.stp 1 (i1 := 18) (L1 := [some (.ref 0), some (.int what)]) (st1 := [.int 0]) (s1 := s) rfl ?_
        exact kk
      · skip
        refine UP.icF rfl cc ?_
        refine UP.stp 3 (i1 := 14) (L1 := [some (.ref 0), some (.int what)]) (st1 := [.int 1, .ref 1]) (s1 := s) rfl ?_
        refine UP.aald (e := 1) (r := 111) rfl rfl (by omega) rfl ?_
        refine UP.stp 2 (i1 := 18) (L1 := [some (.ref 0), some (.int what)]) (st1 := [.int (s 111 1)]) (s1 := s) rfl ?_
        exact kk
      exact UP.ret (r := some (.int v5)) rfl ⟨by subst e5; rfl, by subst e5; rfl⟩
    · skip
      refine UP.spl (m_cmp .eq what 2) (let v9 := bif m_cmp .ne (F_cfault_2 s) (-1) then (0 : Int32) else s 113 1; v9) (bif m_cmp .eq what 3 then (((s 109 1) + (s 111 1)) + (s 113 1)) else (bif m_cmp .eq what 4 then (s 2 3) else (bif m_cmp .eq what 5 then (s 10 5) else (bif m_cmp .eq what 6 then (s 10 6) else (bif m_cmp .eq what 7 then (s 6 2) else (bif m_cmp .eq what 8 then (s 0 4) else ((-2)))))))) (by rfl) (fun cs2 => ?_) (fun cs2 => ?_)
      · skip
        refine UP.swT 2 rfl cs2 (by decide) (by decide) ?_
        refine UP.stp 2 (i1 := 21) (L1 := [some (.ref 0), some (.int what)]) (st1 := [.int 2, .ref 0]) (s1 := s) rfl ?_
        refine UP.cI (M1 := m_X6_fault) (as := [.ref 0, .int 2]) (rest := []) (T := F_cfault_2 s ) rfl rfl (ux_cfault_2 s) ?_
        refine UP.stp 1 (i1 := 23) (L1 := [some (.ref 0), some (.int what)]) (st1 := [.int (-1), .int (F_cfault_2 s)]) (s1 := s) rfl ?_
        refine mrg (m_cmp .ne (F_cfault_2 s) (-1)) (0 : Int32) (s 113 1) (fun v9 : Int32 => UP m_X6_count 31 [some (.ref 0), some (.int what)] [.int v9] s (Qi s (let v9 := bif m_cmp .ne (F_cfault_2 s) (-1) then (0 : Int32) else s 113 1; v9))) (fun cc kk => ?_) (fun cc kk => ?_) (fun v9 e9 => ?_)
        · skip
          refine UP.icT rfl cc ?_
          refine UP.stp 1 (i1 := 31) (L1 := [some (.ref 0), some (.int what)]) (st1 := [.int 0]) (s1 := s) rfl ?_
          exact kk
        · skip
          refine UP.icF rfl cc ?_
          refine UP.stp 3 (i1 := 27) (L1 := [some (.ref 0), some (.int what)]) (st1 := [.int 2, .ref 1]) (s1 := s) rfl ?_
          refine UP.aald (e := 2) (r := 113) rfl rfl (by omega) rfl ?_
          refine UP.stp 2 (i1 := 31) (L1 := [some (.ref 0), some (.int what)]) (st1 := [.int (s 113 1)]) (s1 := s) rfl ?_
          exact kk
        exact UP.ret (r := some (.int v9)) rfl ⟨by subst e9; rfl, by subst e9; rfl⟩
      · skip
        refine UP.spl (m_cmp .eq what 3) (((s 109 1) + (s 111 1)) + (s 113 1)) (bif m_cmp .eq what 4 then (s 2 3) else (bif m_cmp .eq what 5 then (s 10 5) else (bif m_cmp .eq what 6 then (s 10 6) else (bif m_cmp .eq what 7 then (s 6 2) else (bif m_cmp .eq what 8 then (s 0 4) else ((-2))))))) (by rfl) (fun cs3 => ?_) (fun cs3 => ?_)
        · skip
          refine UP.swT 3 rfl cs3 (by decide) (by decide) ?_
          refine UP.stp 3 (i1 := 35) (L1 := [some (.ref 0), some (.int what)]) (st1 := [.int 0, .ref 1]) (s1 := s) rfl ?_
          refine UP.aald (e := 0) (r := 109) rfl rfl (by omega) rfl ?_
          refine UP.stp 4 (i1 := 40) (L1 := [some (.ref 0), some (.int what)]) (st1 := [.int 1, .ref 1, .int (s 109 1)]) (s1 := s) rfl ?_
          refine UP.aald (e := 1) (r := 111) rfl rfl (by omega) rfl ?_
          refine UP.stp 5 (i1 := 46) (L1 := [some (.ref 0), some (.int what)]) (st1 := [.int 2, .ref 1, .int ((s 109 1) + (s 111 1))]) (s1 := s) rfl ?_
          refine UP.aald (e := 2) (r := 113) rfl rfl (by omega) rfl ?_
          refine UP.stp 2 (i1 := 49) (L1 := [some (.ref 0), some (.int what)]) (st1 := [.int (((s 109 1) + (s 111 1)) + (s 113 1))]) (s1 := s) rfl ?_
          exact UP.ret (r := some (.int (((s 109 1) + (s 111 1)) + (s 113 1)))) rfl ⟨by rfl, by rfl⟩
        · skip
          refine UP.spl (m_cmp .eq what 4) (s 2 3) (bif m_cmp .eq what 5 then (s 10 5) else (bif m_cmp .eq what 6 then (s 10 6) else (bif m_cmp .eq what 7 then (s 6 2) else (bif m_cmp .eq what 8 then (s 0 4) else ((-2)))))) (by rfl) (fun cs4 => ?_) (fun cs4 => ?_)
          · skip
            refine UP.swT 4 rfl cs4 (by decide) (by decide) ?_
            refine UP.stp 3 (i1 := 53) (L1 := [some (.ref 0), some (.int what)]) (st1 := [.int (s 2 3)]) (s1 := s) rfl ?_
            exact UP.ret (r := some (.int (s 2 3))) rfl ⟨by rfl, by rfl⟩
          · skip
            refine UP.spl (m_cmp .eq what 5) (s 10 5) (bif m_cmp .eq what 6 then (s 10 6) else (bif m_cmp .eq what 7 then (s 6 2) else (bif m_cmp .eq what 8 then (s 0 4) else ((-2))))) (by rfl) (fun cs5 => ?_) (fun cs5 => ?_)
            · skip
              refine UP.swT 5 rfl cs5 (by decide) (by decide) ?_
              refine UP.stp 3 (i1 := 57) (L1 := [some (.ref 0), some (.int what)]) (st1 := [.int (s 10 5)]) (s1 := s) rfl ?_
              exact UP.ret (r := some (.int (s 10 5))) rfl ⟨by rfl, by rfl⟩
            · skip
              refine UP.spl (m_cmp .eq what 6) (s 10 6) (bif m_cmp .eq what 7 then (s 6 2) else (bif m_cmp .eq what 8 then (s 0 4) else ((-2)))) (by rfl) (fun cs6 => ?_) (fun cs6 => ?_)
              · skip
                refine UP.swT 6 rfl cs6 (by decide) (by decide) ?_
                refine UP.stp 3 (i1 := 61) (L1 := [some (.ref 0), some (.int what)]) (st1 := [.int (s 10 6)]) (s1 := s) rfl ?_
                exact UP.ret (r := some (.int (s 10 6))) rfl ⟨by rfl, by rfl⟩
              · skip
                refine UP.spl (m_cmp .eq what 7) (s 6 2) (bif m_cmp .eq what 8 then (s 0 4) else ((-2))) (by rfl) (fun cs7 => ?_) (fun cs7 => ?_)
                · skip
                  refine UP.swT 7 rfl cs7 (by decide) (by decide) ?_
                  refine UP.stp 3 (i1 := 65) (L1 := [some (.ref 0), some (.int what)]) (st1 := [.int (s 6 2)]) (s1 := s) rfl ?_
                  exact UP.ret (r := some (.int (s 6 2))) rfl ⟨by rfl, by rfl⟩
                · skip
                  refine UP.spl (m_cmp .eq what 8) (s 0 4) ((-2)) (by rfl) (fun cs8 => ?_) (fun cs8 => ?_)
                  · skip
                    refine UP.swT 8 rfl cs8 (by decide) (by decide) ?_
                    refine UP.stp 2 (i1 := 68) (L1 := [some (.ref 0), some (.int what)]) (st1 := [.int (s 0 4)]) (s1 := s) rfl ?_
                    exact UP.ret (r := some (.int (s 0 4))) rfl ⟨by rfl, by rfl⟩
                  · skip
                    refine UP.swD rfl (by have c0_ : what.toInt ≠ 0 := ne_int cs0; have c1_ : what.toInt ≠ 1 := ne_int cs1; have c2_ : what.toInt ≠ 2 := ne_int cs2; have c3_ : what.toInt ≠ 3 := ne_int cs3; have c4_ : what.toInt ≠ 4 := ne_int cs4; have c5_ : what.toInt ≠ 5 := ne_int cs5; have c6_ : what.toInt ≠ 6 := ne_int cs6; have c7_ : what.toInt ≠ 7 := ne_int cs7; have c8_ : what.toInt ≠ 8 := ne_int cs8; omega) ?_
                    refine UP.stp 1 (i1 := 70) (L1 := [some (.ref 0), some (.int what)]) (st1 := [.int (-2)]) (s1 := s) rfl ?_
                    exact UP.ret (r := some (.int (-2))) rfl ⟨by rfl, by rfl⟩
