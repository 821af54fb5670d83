def W_cask : List (Nat × Nat × Option Nat) := [(16, 20, none), (22, 45, none), (46, 52, none), (15, 15, some 8), (59, 63, none), (65, 88, none), (89, 95, none), (58, 58, some 8), (53, 57, none), (96, 108, none), (0, 0, some 12), (0, 0, some 13)]
def B_cask_16 (z4 : Int32 × SG) (i5 : Nat) (a5 : SG × Int32 × Int32) : SG × Int32 × Int32 := let z6 := F_mostAtOnePlace a5.1 z4.1 (Int32.ofNat i5); let w7 := bif m_cmp .ge z6.1 a5.2.2 then (a5.2.1, a5.2.2) else (Int32.ofNat i5, z6.1); (z6.2, w7.1, w7.2)
set_option maxRecDepth 20000 in
set_option maxHeartbeats 200000 in
theorem fr_B_cask_16 (z4 : Int32 × SG) (i5 : Nat) (a5 : SG × Int32 × Int32)  (hi5 : i5 < 24) : Fr W_cask a5.1 ((B_cask_16 z4) i5 a5).1 := by dsimp only [B_cask_16]; exact (Fr.tr (s1 := a5.1) (Fr.rf _ _) (Fr.wk (W2 := W_cask) (fr_mostAtOnePlace a5.1 z4.1 (Int32.ofNat i5)) (by rfl)))
def F_cask (s : SG) (seat : Int32) : Int32 × SG := bif m_cmp .ne (F_cisRower s seat) 0 then (let z4 := F_possiblePowers s seat; let z5 := itr (B_cask_16 z4) 0 24 (z4.2, 0, 10); (z5.2.1, z5.1)) else (((-2), s))
set_option maxRecDepth 20000 in
set_option maxHeartbeats 200000 in
theorem fr_cask (s : SG) (seat : Int32)  : Fr W_cask s (F_cask s seat).2 := by dsimp only [F_cask]; exact (Fr.bifp (b := m_cmp .ne (F_cisRower s seat) 0) (x := let z4 := F_possiblePowers s seat; let z5 := itr (B_cask_16 z4) 0 24 (z4.2, 0, 10); (z5.2.1, z5.1)) (y := ((-2), s)) (fun x : Int32 × SG => x.2) (by (try dsimp only); exact (let z4 : Int32 × SG := F_possiblePowers s seat; (frItrB (W := W_cask) (m := (fun x : SG × Int32 × Int32 => x.1)) (f := (B_cask_16 z4)) 24 (fun ii aa hh => Fr.wk (W2 := W_cask) (fr_B_cask_16 z4 ii aa  hh) (by rfl)) 24 0 (z4.2, 0, 10) (by omega) (by (try dsimp only); exact (Fr.tr (s1 := s) (Fr.rf _ _) (Fr.wk (W2 := W_cask) (fr_possiblePowers s seat) (by rfl))))))) (by (try dsimp only); exact (Fr.rf _ _)))
set_option maxRecDepth 20000 in
set_option maxHeartbeats 200000 in
theorem ux_cask (s : SG) (seat : Int32)  : UP m_X6_ask 0 (m_ent 7 [.ref 0, .int seat]) [] s (Qb (F_cask s seat)) := by
  refine UP.stp 2 (i1 := 2) (L1 := [some (.ref 0), some (.int seat), none, none, none, none, none]) (st1 := [.int seat, .ref 0]) (s1 := s) rfl ?_
  refine UP.cI (M1 := m_X6_isRower) (as := [.ref 0, .int seat]) (rest := []) (T := F_cisRower s seat) rfl rfl (ux_cisRower s seat) ?_
  refine UP.spl (m_cmp .ne (F_cisRower s seat) 0) (let z4 := F_possiblePowers s seat; let z5 := itr (B_cask_16 z4) 0 24 (z4.2, 0, 10); (z5.2.1, z5.1)) (((-2), s)) (by first | (dsimp only [F_cask]; done) | (dsimp only; done) | rfl) (fun cc => ?_) (fun cc => ?_)
  · skip
    refine UP.ifT rfl cc ?_
    refine UP.stp 2 (i1 := 8) (L1 := [some (.ref 0), some (.int seat), none, none, none, none, none]) (st1 := [.int seat, .ref 0]) (s1 := s) rfl ?_
    refine UP.cB (M1 := m_X6_possiblePowers) (as := [.ref 0, .int seat]) (rest := []) (T := F_possiblePowers s seat) rfl rfl (ux_possiblePowers s seat) (fun z4 e4 => ?_)
    refine UP.stp 7 (i1 := 16) (L1 := [some (.ref 0), some (.int seat), some (.int z4.1), some (.int 0), some (.int 10), some (.int 0), none]) (st1 := []) (s1 := z4.2) rfl ?_
    refine lp (fun (i5 : Nat) (a5 : SG × Int32 × Int32) => ∀ (u5_1 : Option Value) (u5_6 : Option Value), UP m_X6_ask 16 [some (.ref 0), u5_1, some (.int z4.1), some (.int a5.2.1), some (.int a5.2.2), some (.int (Int32.ofNat i5)), u5_6] [] a5.1 (Qb (let z4 := F_possiblePowers s seat; let z5 := itr (B_cask_16 z4) 0 24 (z4.2, 0, 10); (z5.2.1, z5.1)))) (fun (_ : Nat) (a5 : SG × Int32 × Int32) => Fr W_cask z4.2 a5.1) (B_cask_16 z4) (24) (fun i5 a5 hi5 g5 => g5.tr (fr_B_cask_16 z4 i5 a5 hi5)) (fun i5 a5 hi5 g5 kk => ?_) 24 (0) (z4.2, 0, 10) (by  omega) (Fr.rf _ _) (fun z5 e5 g5 => ?_) (some (.int seat)) none
    · skip
      intro u5_1 u5_6
      refine UP.stp 2 (i1 := 18) (L1 := [some (.ref 0), u5_1, some (.int z4.1), some (.int a5.2.1), some (.int a5.2.2), some (.int (Int32.ofNat i5)), u5_6]) (st1 := [.int 24, .int (Int32.ofNat i5)]) (s1 := a5.1) rfl ?_
      refine UP.icF rfl (ge_F (show i5 < (24 : Int32).toNatClampNeg from hi5)) ?_
      refine UP.stp 3 (i1 := 22) (L1 := [some (.ref 0), u5_1, some (.int z4.1), some (.int a5.2.1), some (.int a5.2.2), some (.int (Int32.ofNat i5)), u5_6]) (st1 := [.int (Int32.ofNat i5), .int z4.1, .ref 0]) (s1 := a5.1) rfl ?_
      refine UP.cB (M1 := m_X6_mostAtOnePlace) (as := [.ref 0, .int z4.1, .int (Int32.ofNat i5)]) (rest := []) (T := F_mostAtOnePlace a5.1 z4.1 (Int32.ofNat i5)) rfl rfl (ux_mostAtOnePlace a5.1 z4.1 (Int32.ofNat i5)) (fun z6 e6 => ?_)
      refine UP.stp 3 (i1 := 26) (L1 := [some (.ref 0), u5_1, some (.int z4.1), some (.int a5.2.1), some (.int a5.2.2), some (.int (Int32.ofNat i5)), some (.int z6.1)]) (st1 := [.int a5.2.2, .int z6.1]) (s1 := z6.2) rfl ?_
      refine mrg (m_cmp .ge z6.1 a5.2.2) (a5.2.1, a5.2.2) (Int32.ofNat i5, z6.1) (fun w7 : Int32 × Int32 => UP m_X6_ask 31 [some (.ref 0), u5_1, some (.int z4.1), some (.int w7.1), some (.int w7.2), some (.int (Int32.ofNat i5)), some (.int z6.1)] [] z6.2 (Qb (let z4 := F_possiblePowers s seat; let z5 := itr (B_cask_16 z4) 0 24 (z4.2, 0, 10); (z5.2.1, z5.1)))) (fun cc kk => ?_) (fun cc kk => ?_) (fun w7 e7 => ?_)
      · skip
        refine UP.icT rfl cc ?_
        exact kk
      · skip
        refine UP.icF rfl cc ?_
        refine UP.stp 4 (i1 := 31) (L1 := [some (.ref 0), u5_1, some (.int z4.1), some (.int (Int32.ofNat i5)), some (.int z6.1), some (.int (Int32.ofNat i5)), some (.int z6.1)]) (st1 := []) (s1 := z6.2) rfl ?_
        exact kk
      refine UP.stp 2 (i1 := 16) (L1 := [some (.ref 0), u5_1, some (.int z4.1), some (.int w7.1), some (.int w7.2), some (.int ((Int32.ofNat i5) + 1)), some (.int z6.1)]) (st1 := []) (s1 := z6.2) rfl ?_
      subst e7 e6
      rw [ofn_s]
      try dsimp only [B_cask_16] at kk
      exact kk _ _
    intro u5_1 u5_6
    refine UP.stp 2 (i1 := 18) (L1 := [some (.ref 0), u5_1, some (.int z4.1), some (.int z5.2.1), some (.int z5.2.2), some (.int (Int32.ofNat 24)), u5_6]) (st1 := [.int 24, .int (Int32.ofNat 24)]) (s1 := z5.1) rfl ?_
    refine UP.icT rfl (ge_T (24 : Int32)) ?_
    refine UP.stp 1 (i1 := 34) (L1 := [some (.ref 0), u5_1, some (.int z4.1), some (.int z5.2.1), some (.int z5.2.2), some (.int (Int32.ofNat 24)), u5_6]) (st1 := [.int z5.2.1]) (s1 := z5.1) rfl ?_
    exact UP.ret (r := some (.int z5.2.1)) rfl ⟨by subst e5 e4; first | (dsimp only [F_cask]; done) | (dsimp only; done) | rfl, by subst e5 e4; first | (dsimp only [F_cask]; done) | (dsimp only; done) | rfl⟩
  · skip
    refine UP.ifF rfl cc ?_
    refine UP.stp 1 (i1 := 5) (L1 := [some (.ref 0), some (.int seat), none, none, none, none, none]) (st1 := [.int (-2)]) (s1 := s) rfl ?_
    exact UP.ret (r := some (.int (-2))) rfl ⟨by first | (dsimp only [F_cask]; done) | (dsimp only; done) | rfl, by first | (dsimp only [F_cask]; done) | (dsimp only; done) | rfl⟩
