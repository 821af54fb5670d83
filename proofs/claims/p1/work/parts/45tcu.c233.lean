def W_mostAtOnePlace : List (Nat × Nat × Option Nat) := [(16, 20, none), (22, 45, none), (46, 52, none), (15, 15, some 8), (59, 63, none), (65, 88, none), (89, 95, none), (58, 58, some 8), (53, 57, none), (96, 108, none), (0, 0, some 12), (0, 0, some 13)]
def B_mostAtOnePlace_8 (powers : Int32) (minute : Int32) (i2 : Nat) (a2 : SG × Int32) : SG × Int32 := let w8 := bif m_cmp .eq (F_hasBit a2.1 powers (Int32.ofNat i2)) 0 then (a2.2, a2.1) else ((if a2.2 < ((uset a2.1 108 (a2.1 (98 + i2) minute.toNatClampNeg).toNatClampNeg ((a2.1 108 (a2.1 (98 + i2) minute.toNatClampNeg).toNatClampNeg) + 1)) 108 (a2.1 (98 + i2) minute.toNatClampNeg).toNatClampNeg) then ((uset a2.1 108 (a2.1 (98 + i2) minute.toNatClampNeg).toNatClampNeg ((a2.1 108 (a2.1 (98 + i2) minute.toNatClampNeg).toNatClampNeg) + 1)) 108 (a2.1 (98 + i2) minute.toNatClampNeg).toNatClampNeg) else a2.2), (uset a2.1 108 (a2.1 (98 + i2) minute.toNatClampNeg).toNatClampNeg ((a2.1 108 (a2.1 (98 + i2) minute.toNatClampNeg).toNatClampNeg) + 1))); (w8.2, w8.1)
set_option maxRecDepth 20000 in
set_option maxHeartbeats 200000 in
theorem fr_B_mostAtOnePlace_8 (powers : Int32) (minute : Int32) (i2 : Nat) (a2 : SG × Int32)  (hi2 : i2 < 10) : Fr W_mostAtOnePlace a2.1 ((B_mostAtOnePlace_8 powers minute) i2 a2).1 := by dsimp only [B_mostAtOnePlace_8]; exact (Fr.bifp (b := m_cmp .eq (F_hasBit a2.1 powers (Int32.ofNat i2)) 0) (x := (a2.2, a2.1)) (y := ((if a2.2 < ((uset a2.1 108 (a2.1 (98 + i2) minute.toNatClampNeg).toNatClampNeg ((a2.1 108 (a2.1 (98 + i2) minute.toNatClampNeg).toNatClampNeg) + 1)) 108 (a2.1 (98 + i2) minute.toNatClampNeg).toNatClampNeg) then ((uset a2.1 108 (a2.1 (98 + i2) minute.toNatClampNeg).toNatClampNeg ((a2.1 108 (a2.1 (98 + i2) minute.toNatClampNeg).toNatClampNeg) + 1)) 108 (a2.1 (98 + i2) minute.toNatClampNeg).toNatClampNeg) else a2.2), (uset a2.1 108 (a2.1 (98 + i2) minute.toNatClampNeg).toNatClampNeg ((a2.1 108 (a2.1 (98 + i2) minute.toNatClampNeg).toNatClampNeg) + 1)))) (fun x : Int32 × SG => x.2) (by (try dsimp only); exact (Fr.rf _ _)) (by (try dsimp only); exact (Fr.uset (s1 := a2.1) (a := 108) (j := (a2.1 (98 + i2) minute.toNatClampNeg).toNatClampNeg) (x := ((a2.1 108 (a2.1 (98 + i2) minute.toNatClampNeg).toNatClampNeg) + 1)) (by rfl) (Fr.rf _ _))))
def F_mostAtOnePlace (s : SG) (powers : Int32) (minute : Int32) : Int32 × SG := let z1 := fil s 108 21 0; let z2 := itr (B_mostAtOnePlace_8 powers minute) 1 (10 - 1) (z1, 0); (z2.2, z2.1)
set_option maxRecDepth 20000 in
set_option maxHeartbeats 200000 in
theorem fr_mostAtOnePlace (s : SG) (powers : Int32) (minute : Int32)  : Fr W_mostAtOnePlace s (F_mostAtOnePlace s powers minute).2 := by dsimp only [F_mostAtOnePlace]; exact (let z1 : SG := fil s 108 21 0; (frItrB (W := W_mostAtOnePlace) (m := (fun x : SG × Int32 => x.1)) (f := (B_mostAtOnePlace_8 powers minute)) 10 (fun ii aa hh => Fr.wk (W2 := W_mostAtOnePlace) (fr_B_mostAtOnePlace_8 powers minute ii aa  hh) (by rfl)) (10 - 1) 1 (z1, 0) (by omega) (Fr.fil (by rfl) (Fr.rf _ _))))
set_option maxRecDepth 20000 in
set_option maxHeartbeats 200000 in
theorem ux_mostAtOnePlace (s : SG) (powers : Int32) (minute : Int32)  : UP m_X6_mostAtOnePlace 0 (m_ent 6 [.ref 0, .int powers, .int minute]) [] s (Qb (F_mostAtOnePlace s powers minute)) := by
  refine UP.stp 3 (i1 := 3) (L1 := [some (.ref 0), some (.int powers), some (.int minute), none, none, none]) (st1 := [.int 0, .ref 108]) (s1 := s) rfl ?_
  refine UP.cV (M1 := m_J7_fill_53178) (as := [.ref 108, .int 0]) (rest := []) (T := fil s 108 21 0) rfl rfl (ux_fill s 108 0 21 rfl (by decide)) (fun z1 e1 => ?_)
  refine UP.stp 4 (i1 := 8) (L1 := [some (.ref 0), some (.int powers), some (.int minute), some (.int 0), some (.int 1), none]) (st1 := []) (s1 := z1) rfl ?_
  refine lp (fun (i2 : Nat) (a2 : SG × Int32) => ∀ (u2_5 : Option Value), UP m_X6_mostAtOnePlace 8 [some (.ref 0), some (.int powers), some (.int minute), some (.int a2.2), some (.int (Int32.ofNat i2)), u2_5] [] a2.1 (Qb (F_mostAtOnePlace s powers minute))) (fun (_ : Nat) (a2 : SG × Int32) => Fr W_mostAtOnePlace z1 a2.1) (B_mostAtOnePlace_8 powers minute) (10) (fun i2 a2 hi2 g2 => g2.tr (fr_B_mostAtOnePlace_8 powers minute i2 a2 hi2)) (fun i2 a2 hi2 g2 kk => ?_) (10 - 1) (1) (z1, 0) (by  omega) (Fr.rf _ _) (fun z2 e2 g2 => ?_) none
  · skip
    intro u2_5
    refine UP.stp 2 (i1 := 10) (L1 := [some (.ref 0), some (.int powers), some (.int minute), some (.int a2.2), some (.int (Int32.ofNat i2)), u2_5]) (st1 := [.int 9, .int (Int32.ofNat i2)]) (s1 := a2.1) rfl ?_
    refine UP.icF rfl (gt_F (show i2 ≤ (9 : Int32).toNatClampNeg from Nat.le_of_lt_succ hi2) (by decide)) ?_
    refine UP.stp 2 (i1 := 13) (L1 := [some (.ref 0), some (.int powers), some (.int minute), some (.int a2.2), some (.int (Int32.ofNat i2)), u2_5]) (st1 := [.int (Int32.ofNat i2), .int powers]) (s1 := a2.1) rfl ?_
    refine UP.cI (M1 := m_X6_hasBit) (as := [.int powers, .int (Int32.ofNat i2)]) (rest := []) (T := F_hasBit a2.1 powers (Int32.ofNat i2)) rfl rfl (ux_hasBit a2.1 powers (Int32.ofNat i2)) ?_
    refine mrg (m_cmp .eq (F_hasBit a2.1 powers (Int32.ofNat i2)) 0) (a2.2, a2.1) ((if a2.2 < ((uset a2.1 108 (a2.1 (98 + i2) minute.toNatClampNeg).toNatClampNeg ((a2.1 108 (a2.1 (98 + i2) minute.toNatClampNeg).toNatClampNeg) + 1)) 108 (a2.1 (98 + i2) minute.toNatClampNeg).toNatClampNeg) then ((uset a2.1 108 (a2.1 (98 + i2) minute.toNatClampNeg).toNatClampNeg ((a2.1 108 (a2.1 (98 + i2) minute.toNatClampNeg).toNatClampNeg) + 1)) 108 (a2.1 (98 + i2) minute.toNatClampNeg).toNatClampNeg) else a2.2), (uset a2.1 108 (a2.1 (98 + i2) minute.toNatClampNeg).toNatClampNeg ((a2.1 108 (a2.1 (98 + i2) minute.toNatClampNeg).toNatClampNeg) + 1))) (fun w8 : Int32 × SG => ∀ (u7 : Option Value), UP m_X6_mostAtOnePlace 37 [some (.ref 0), some (.int powers), some (.int minute), some (.int w8.1), some (.int (Int32.ofNat i2)), u7] [] w8.2 (Qb (F_mostAtOnePlace s powers minute))) (fun cc kk => ?_) (fun cc kk => ?_) (fun w8 e8 u7 => ?_)
    · skip
      refine UP.ifT rfl cc ?_
      exact kk _
    · skip
      refine UP.ifF rfl cc ?_
      refine UP.stp 3 (i1 := 18) (L1 := [some (.ref 0), some (.int powers), some (.int minute), some (.int a2.2), some (.int (Int32.ofNat i2)), u2_5]) (st1 := [.int (Int32.ofNat i2), .ref 97]) (s1 := a2.1) rfl ?_
      refine UP.aald (e := i2) (r := 98 + i2) rfl rfl (by omega) rfl ?_
      refine UP.stp 2 (i1 := 21) (L1 := [some (.ref 0), some (.int powers), some (.int minute), some (.int a2.2), some (.int (Int32.ofNat i2)), u2_5]) (st1 := [.int (a2.1 (98 + i2) minute.toNatClampNeg)]) (s1 := a2.1) rfl ?_
      refine nm (G := fun v4 => UP m_X6_mostAtOnePlace 21 [some (.ref 0), some (.int powers), some (.int minute), some (.int a2.2), some (.int (Int32.ofNat i2)), u2_5] [.int v4] a2.1 (Qb (F_mostAtOnePlace s powers minute))) (a2.1 (98 + i2) minute.toNatClampNeg) (fun v4 e4 => ?_)
      refine UP.stp 8 (i1 := 29) (L1 := [some (.ref 0), some (.int powers), some (.int minute), some (.int a2.2), some (.int (Int32.ofNat i2)), some (.int v4)]) (st1 := [.int ((a2.1 108 v4.toNatClampNeg) + 1), .int v4, .ref 108]) (s1 := a2.1) rfl ?_
      refine nm (G := fun v5 => UP m_X6_mostAtOnePlace 29 [some (.ref 0), some (.int powers), some (.int minute), some (.int a2.2), some (.int (Int32.ofNat i2)), some (.int v4)] [.int v5, .int v4, .ref 108] a2.1 (Qb (F_mostAtOnePlace s powers minute))) ((a2.1 108 v4.toNatClampNeg) + 1) (fun v5 e5 => ?_)
      refine UP.stp 7 (i1 := 36) (L1 := [some (.ref 0), some (.int powers), some (.int minute), some (.int a2.2), some (.int (Int32.ofNat i2)), some (.int v4)]) (st1 := [.int (if a2.2 < ((uset a2.1 108 v4.toNatClampNeg v5) 108 v4.toNatClampNeg) then ((uset a2.1 108 v4.toNatClampNeg v5) 108 v4.toNatClampNeg) else a2.2)]) (s1 := (uset a2.1 108 v4.toNatClampNeg v5)) rfl ?_
      refine nm (G := fun v6 => UP m_X6_mostAtOnePlace 36 [some (.ref 0), some (.int powers), some (.int minute), some (.int a2.2), some (.int (Int32.ofNat i2)), some (.int v4)] [.int v6] (uset a2.1 108 v4.toNatClampNeg v5) (Qb (F_mostAtOnePlace s powers minute))) (if a2.2 < ((uset a2.1 108 v4.toNatClampNeg v5) 108 v4.toNatClampNeg) then ((uset a2.1 108 v4.toNatClampNeg v5) 108 v4.toNatClampNeg) else a2.2) (fun v6 e6 => ?_)
      refine UP.stp 1 (i1 := 37) (L1 := [some (.ref 0), some (.int powers), some (.int minute), some (.int v6), some (.int (Int32.ofNat i2)), some (.int v4)]) (st1 := []) (s1 := (uset a2.1 108 v4.toNatClampNeg v5)) rfl ?_
      subst e6 e5 e4
      exact kk _
    refine UP.stp 2 (i1 := 8) (L1 := [some (.ref 0), some (.int powers), some (.int minute), some (.int w8.1), some (.int ((Int32.ofNat i2) + 1)), u7]) (st1 := []) (s1 := w8.2) rfl ?_
    subst e8
    rw [ofn_s]
    try dsimp only [B_mostAtOnePlace_8] at kk
    exact kk _
  intro u2_5
  refine UP.stp 2 (i1 := 10) (L1 := [some (.ref 0), some (.int powers), some (.int minute), some (.int z2.2), some (.int (Int32.ofNat 10)), u2_5]) (st1 := [.int 9, .int (Int32.ofNat 10)]) (s1 := z2.1) rfl ?_
  refine UP.icT rfl (gt_T (v := 9) (by decide) (by decide)) ?_
  refine UP.stp 1 (i1 := 40) (L1 := [some (.ref 0), some (.int powers), some (.int minute), some (.int z2.2), some (.int (Int32.ofNat 10)), u2_5]) (st1 := [.int z2.2]) (s1 := z2.1) rfl ?_
  exact UP.ret (r := some (.int z2.2)) rfl ⟨by subst e2 e1; first | (dsimp only [F_mostAtOnePlace]; done) | (dsimp only; done) | rfl, by subst e2 e1; first | (dsimp only [F_mostAtOnePlace]; done) | (dsimp only; done) | rfl⟩
