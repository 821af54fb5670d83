section
/-! the class: a trip, as a function (printed by wip/u/mk_c1.py) -/
def W_takeEvents_a : List (Nat × Nat × Option Nat) := [(50, 52, none)]
def B_takeEvents_a_14 (mask : Int32) (i4 : Nat) (a4 : SG) : SG := let v13 := bif m_cmp .ne ((mask >>> ((Int32.ofNat i4) &&& 31)) &&& (1 : Int32)) 0 then (bif m_cmp .ne (a4 3 i4) 0 then (bif m_cmp .ne (a4 3 i4) 1 then (uset a4 52 (a4 4 i4).toNatClampNeg ((a4 52 (a4 4 i4).toNatClampNeg) + 3)) else (uset a4 51 (a4 4 i4).toNatClampNeg ((a4 51 (a4 4 i4).toNatClampNeg) + (bif m_cmp .ne ((a4 5 i4) - (a4 5 i4) / 2 * 2) 1 then (-2 : Int32) else (2 : Int32))))) else (uset a4 50 (a4 4 i4).toNatClampNeg ((a4 50 (a4 4 i4).toNatClampNeg) ||| (1 <<< ((a4 5 i4) &&& 31))))) else a4; v13
theorem fr_B_takeEvents_a_14 (mask : Int32) (i4 : Nat) (a4 : SG)   : Fr W_takeEvents_a a4 ((B_takeEvents_a_14 mask) i4 a4) := by dsimp only [B_takeEvents_a_14]; exact (Fr.bif (b := m_cmp .ne ((mask >>> ((Int32.ofNat i4) &&& 31)) &&& (1 : Int32)) 0) (s1 := (bif m_cmp .ne (a4 3 i4) 0 then (bif m_cmp .ne (a4 3 i4) 1 then (uset a4 52 (a4 4 i4).toNatClampNeg ((a4 52 (a4 4 i4).toNatClampNeg) + 3)) else (uset a4 51 (a4 4 i4).toNatClampNeg ((a4 51 (a4 4 i4).toNatClampNeg) + (bif m_cmp .ne ((a4 5 i4) - (a4 5 i4) / 2 * 2) 1 then (-2 : Int32) else (2 : Int32))))) else (uset a4 50 (a4 4 i4).toNatClampNeg ((a4 50 (a4 4 i4).toNatClampNeg) ||| (1 <<< ((a4 5 i4) &&& 31)))))) (s2 := a4) (Fr.bif (b := m_cmp .ne (a4 3 i4) 0) (s1 := (bif m_cmp .ne (a4 3 i4) 1 then (uset a4 52 (a4 4 i4).toNatClampNeg ((a4 52 (a4 4 i4).toNatClampNeg) + 3)) else (uset a4 51 (a4 4 i4).toNatClampNeg ((a4 51 (a4 4 i4).toNatClampNeg) + (bif m_cmp .ne ((a4 5 i4) - (a4 5 i4) / 2 * 2) 1 then (-2 : Int32) else (2 : Int32)))))) (s2 := (uset a4 50 (a4 4 i4).toNatClampNeg ((a4 50 (a4 4 i4).toNatClampNeg) ||| (1 <<< ((a4 5 i4) &&& 31))))) (Fr.bif (b := m_cmp .ne (a4 3 i4) 1) (s1 := (uset a4 52 (a4 4 i4).toNatClampNeg ((a4 52 (a4 4 i4).toNatClampNeg) + 3))) (s2 := (uset a4 51 (a4 4 i4).toNatClampNeg ((a4 51 (a4 4 i4).toNatClampNeg) + (bif m_cmp .ne ((a4 5 i4) - (a4 5 i4) / 2 * 2) 1 then (-2 : Int32) else (2 : Int32))))) (Fr.uset (s1 := a4) (a := 52) (j := (a4 4 i4).toNatClampNeg) (x := ((a4 52 (a4 4 i4).toNatClampNeg) + 3)) (by rfl) (Fr.rf _ _)) (Fr.uset (s1 := a4) (a := 51) (j := (a4 4 i4).toNatClampNeg) (x := ((a4 51 (a4 4 i4).toNatClampNeg) + (bif m_cmp .ne ((a4 5 i4) - (a4 5 i4) / 2 * 2) 1 then (-2 : Int32) else (2 : Int32)))) (by rfl) (Fr.rf _ _))) (Fr.uset (s1 := a4) (a := 50) (j := (a4 4 i4).toNatClampNeg) (x := ((a4 50 (a4 4 i4).toNatClampNeg) ||| (1 <<< ((a4 5 i4) &&& 31)))) (by rfl) (Fr.rf _ _))) (Fr.rf _ _))
def F_takeEvents_a (s : SG) (mask : Int32) : SG := let z1 := fil s 50 24 0; let z2 := fil z1 51 24 0; let z3 := fil z2 52 24 0; let z4 := itr (B_takeEvents_a_14 mask) 0 ((z3 2 3).toNatClampNeg) z3; z4
theorem fr_takeEvents_a (s : SG) (mask : Int32)  : Fr W_takeEvents_a s (F_takeEvents_a s mask) := by dsimp only [F_takeEvents_a]; exact (let z1 : SG := fil s 50 24 0; (let z2 : SG := fil z1 51 24 0; (let z3 : SG := fil z2 52 24 0; (Fr.itr (W := W_takeEvents_a) (m := (fun x : SG => x)) (f := (B_takeEvents_a_14 mask)) (fun ii aa => Fr.wk (W2 := W_takeEvents_a) (fr_B_takeEvents_a_14 mask ii aa ) (by rfl)) ((z3 2 3).toNatClampNeg) 0 z3 (Fr.fil (by rfl) (Fr.fil (by rfl) (Fr.fil (by rfl) (Fr.rf _ _))))))))
theorem ux_takeEvents_a (s : SG) (mask : Int32)  : UP m_X5_takeEvents 0 (m_ent 5 [.ref 15, .ref 2, .int mask]) [] s (Qv (F_takeEvents_a s mask)) := by
  refine UP.stp 3 (i1 := 3) (L1 := [some (.ref 15), some (.ref 2), some (.int mask), none, none]) (st1 := [.int 0, .ref 50]) (s1 := s) rfl ?_
  refine UP.cV (M1 := m_J7_fill_53178) (as := [.ref 50, .int 0]) (rest := []) (T := fil s 50 24 0) rfl rfl (ux_fill s 50 0 24 rfl (by decide)) (fun z1 e1 => ?_)
  refine UP.stp 3 (i1 := 7) (L1 := [some (.ref 15), some (.ref 2), some (.int mask), none, none]) (st1 := [.int 0, .ref 51]) (s1 := z1) rfl ?_
  refine UP.cV (M1 := m_J7_fill_53178) (as := [.ref 51, .int 0]) (rest := []) (T := fil z1 51 24 0) rfl rfl (ux_fill z1 51 0 24 rfl (by decide)) (fun z2 e2 => ?_)
  refine UP.stp 3 (i1 := 11) (L1 := [some (.ref 15), some (.ref 2), some (.int mask), none, none]) (st1 := [.int 0, .ref 52]) (s1 := z2) rfl ?_
  refine UP.cV (M1 := m_J7_fill_53178) (as := [.ref 52, .int 0]) (rest := []) (T := fil z2 52 24 0) rfl rfl (ux_fill z2 52 0 24 rfl (by decide)) (fun z3 e3 => ?_)
  refine UP.stp 2 (i1 := 14) (L1 := [some (.ref 15), some (.ref 2), some (.int mask), some (.int 0), none]) (st1 := []) (s1 := z3) rfl ?_
  refine lp (fun (i4 : Nat) (a4 : SG) => ∀ (u4_4 : Option Value), UP m_X5_takeEvents 14 [some (.ref 15), some (.ref 2), some (.int mask), some (.int (Int32.ofNat i4)), u4_4] [] a4 (Qv (F_takeEvents_a s mask))) (fun (_ : Nat) (a4 : SG) => Fr W_takeEvents_a z3 a4) (B_takeEvents_a_14 mask) ((z3 2 3).toNatClampNeg) (fun i4 a4 hi4 g4 => g4.tr (fr_B_takeEvents_a_14 mask i4 a4 )) (fun i4 a4 hi4 g4 kk => ?_) ((z3 2 3).toNatClampNeg) (0) z3 (by  omega) (Fr.rf _ _) (fun z4 e4 g4 => ?_) none
  · skip
    intro u4_4
    have hbi4 := cl_lt (z3 2 3)
    refine UP.stp 3 (i1 := 17) (L1 := [some (.ref 15), some (.ref 2), some (.int mask), some (.int (Int32.ofNat i4)), u4_4]) (st1 := [.int (a4 2 3), .int (Int32.ofNat i4)]) (s1 := a4) rfl ?_
    refine UP.icF rfl (by rw [(g4 2 3 rfl)]; exact ge_F hi4) ?_
    refine UP.stp 5 (i1 := 23) (L1 := [some (.ref 15), some (.ref 2), some (.int mask), some (.int (Int32.ofNat i4)), u4_4]) (st1 := [.int ((mask >>> ((Int32.ofNat i4) &&& 31)) &&& (1 : Int32))]) (s1 := a4) rfl ?_
    refine mrg (m_cmp .ne ((mask >>> ((Int32.ofNat i4) &&& 31)) &&& (1 : Int32)) 0) (bif m_cmp .ne (a4 3 i4) 0 then (bif m_cmp .ne (a4 3 i4) 1 then (uset a4 52 (a4 4 i4).toNatClampNeg ((a4 52 (a4 4 i4).toNatClampNeg) + 3)) else (uset a4 51 (a4 4 i4).toNatClampNeg ((a4 51 (a4 4 i4).toNatClampNeg) + (bif m_cmp .ne ((a4 5 i4) - (a4 5 i4) / 2 * 2) 1 then (-2 : Int32) else (2 : Int32))))) else (uset a4 50 (a4 4 i4).toNatClampNeg ((a4 50 (a4 4 i4).toNatClampNeg) ||| (1 <<< ((a4 5 i4) &&& 31))))) a4 (fun v13 : SG => ∀ (u12 : Option Value), UP m_X5_takeEvents 82 [some (.ref 15), some (.ref 2), some (.int mask), some (.int (Int32.ofNat i4)), u12] [] v13 (Qv (F_takeEvents_a s mask))) (fun cc kk => ?_) (fun cc kk => ?_) (fun v13 e13 u12 => ?_)
    · skip
      refine UP.ifT rfl cc ?_
      refine UP.stp 3 (i1 := 28) (L1 := [some (.ref 15), some (.ref 2), some (.int mask), some (.int (Int32.ofNat i4)), u4_4]) (st1 := [.int (Int32.ofNat i4), .ref 4]) (s1 := a4) rfl ?_
      refine UP.ald (e := i4) rfl rfl (by omega) ?_
      show UP m_X5_takeEvents 29 [some (.ref 15), some (.ref 2), some (.int mask), some (.int (Int32.ofNat i4)), u4_4] [.int (a4 4 i4)] a4 (Qv (F_takeEvents_a s mask))
      refine nm (G := fun v5 => UP m_X5_takeEvents 29 [some (.ref 15), some (.ref 2), some (.int mask), some (.int (Int32.ofNat i4)), u4_4] [.int v5] a4 (Qv (F_takeEvents_a s mask))) (a4 4 i4) (fun v5 e5 => ?_)
      refine UP.stp 4 (i1 := 33) (L1 := [some (.ref 15), some (.ref 2), some (.int mask), some (.int (Int32.ofNat i4)), some (.int v5)]) (st1 := [.int (Int32.ofNat i4), .ref 3]) (s1 := a4) rfl ?_
      refine UP.ald (e := i4) rfl rfl (by omega) ?_
      show UP m_X5_takeEvents 34 [some (.ref 15), some (.ref 2), some (.int mask), some (.int (Int32.ofNat i4)), some (.int v5)] [.int (a4 3 i4)] a4 (Qv (F_takeEvents_a s mask))
      refine mrg (m_cmp .ne (a4 3 i4) 0) (bif m_cmp .ne (a4 3 i4) 1 then (uset a4 52 v5.toNatClampNeg ((a4 52 v5.toNatClampNeg) + 3)) else (uset a4 51 v5.toNatClampNeg ((a4 51 v5.toNatClampNeg) + (bif m_cmp .ne ((a4 5 i4) - (a4 5 i4) / 2 * 2) 1 then (-2 : Int32) else (2 : Int32))))) (uset a4 50 v5.toNatClampNeg ((a4 50 v5.toNatClampNeg) ||| (1 <<< ((a4 5 i4) &&& 31)))) (fun v11 : SG => UP m_X5_takeEvents 82 [some (.ref 15), some (.ref 2), some (.int mask), some (.int (Int32.ofNat i4)), some (.int v5)] [] v11 (Qv (F_takeEvents_a s mask))) (fun cc kk => ?_) (fun cc kk => ?_) (fun v11 e11 => ?_)
      · skip
        refine UP.ifT rfl cc ?_
        refine UP.stp 3 (i1 := 52) (L1 := [some (.ref 15), some (.ref 2), some (.int mask), some (.int (Int32.ofNat i4)), some (.int v5)]) (st1 := [.int (Int32.ofNat i4), .ref 3]) (s1 := a4) rfl ?_
        refine UP.ald (e := i4) rfl rfl (by omega) ?_
        show UP m_X5_takeEvents 53 [some (.ref 15), some (.ref 2), some (.int mask), some (.int (Int32.ofNat i4)), some (.int v5)] [.int (a4 3 i4)] a4 (Qv (F_takeEvents_a s mask))
        refine UP.stp 1 (i1 := 54) (L1 := [some (.ref 15), some (.ref 2), some (.int mask), some (.int (Int32.ofNat i4)), some (.int v5)]) (st1 := [.int 1, .int (a4 3 i4)]) (s1 := a4) rfl ?_
        refine mrg (m_cmp .ne (a4 3 i4) 1) (uset a4 52 v5.toNatClampNeg ((a4 52 v5.toNatClampNeg) + 3)) (uset a4 51 v5.toNatClampNeg ((a4 51 v5.toNatClampNeg) + (bif m_cmp .ne ((a4 5 i4) - (a4 5 i4) / 2 * 2) 1 then (-2 : Int32) else (2 : Int32)))) (fun v9 : SG => UP m_X5_takeEvents 82 [some (.ref 15), some (.ref 2), some (.int mask), some (.int (Int32.ofNat i4)), some (.int v5)] [] v9 (Qv (F_takeEvents_a s mask))) (fun cc kk => ?_) (fun cc kk => ?_) (fun v9 e9 => ?_)
        · skip
          refine UP.icT rfl cc ?_
          refine UP.stp 7 (i1 := 81) (L1 := [some (.ref 15), some (.ref 2), some (.int mask), some (.int (Int32.ofNat i4)), some (.int v5)]) (st1 := [.int ((a4 52 v5.toNatClampNeg) + 3), .int v5, .ref 52]) (s1 := a4) rfl ?_
          refine nm (G := fun v6 => UP m_X5_takeEvents 81 [some (.ref 15), some (.ref 2), some (.int mask), some (.int (Int32.ofNat i4)), some (.int v5)] [.int v6, .int v5, .ref 52] a4 (Qv (F_takeEvents_a s mask))) ((a4 52 v5.toNatClampNeg) + 3) (fun v6 e6 => ?_)
          refine UP.stp 1 (i1 := 82) (L1 := [some (.ref 15), some (.ref 2), some (.int mask), some (.int (Int32.ofNat i4)), some (.int v5)]) (st1 := []) (s1 := (uset a4 52 v5.toNatClampNeg v6)) rfl ?_
          subst e6
          exact kk
        · skip
          refine UP.icF rfl cc ?_
          refine UP.stp 8 (i1 := 63) (L1 := [some (.ref 15), some (.ref 2), some (.int mask), some (.int (Int32.ofNat i4)), some (.int v5)]) (st1 := [.int (Int32.ofNat i4), .ref 5, .int (a4 51 v5.toNatClampNeg), .int v5, .ref 51]) (s1 := a4) rfl ?_
          refine UP.ald (e := i4) rfl rfl (by omega) ?_
          show UP m_X5_takeEvents 64 [some (.ref 15), some (.ref 2), some (.int mask), some (.int (Int32.ofNat i4)), some (.int v5)] [.int (a4 5 i4), .int (a4 51 v5.toNatClampNeg), .int v5, .ref 51] a4 (Qv (F_takeEvents_a s mask))
          refine UP.stp 3 (i1 := 67) (L1 := [some (.ref 15), some (.ref 2), some (.int mask), some (.int (Int32.ofNat i4)), some (.int v5)]) (st1 := [.int 1, .int ((a4 5 i4) - (a4 5 i4) / 2 * 2), .int (a4 51 v5.toNatClampNeg), .int v5, .ref 51]) (s1 := a4) rfl ?_
          refine mrg (m_cmp .ne ((a4 5 i4) - (a4 5 i4) / 2 * 2) 1) (-2 : Int32) (2 : Int32) (fun v7 : Int32 => UP m_X5_takeEvents 71 [some (.ref 15), some (.ref 2), some (.int mask), some (.int (Int32.ofNat i4)), some (.int v5)] [.int v7, .int (a4 51 v5.toNatClampNeg), .int v5, .ref 51] a4 (Qv (F_takeEvents_a s mask))) (fun cc kk => ?_) (fun cc kk => ?_) (fun v7 e7 => ?_)
          · skip
            refine UP.icT rfl cc ?_
            refine UP.stp 1 (i1 := 71) (L1 := [some (.ref 15), some (.ref 2), some (.int mask), some (.int (Int32.ofNat i4)), some (.int v5)]) (st1 := [.int (-2), .int (a4 51 v5.toNatClampNeg), .int v5, .ref 51]) (s1 := a4) rfl ?_
            exact kk
          · skip
            refine UP.icF rfl cc ?_
            refine UP.stp 2 (i1 := 71) (L1 := [some (.ref 15), some (.ref 2), some (.int mask), some (.int (Int32.ofNat i4)), some (.int v5)]) (st1 := [.int 2, .int (a4 51 v5.toNatClampNeg), .int v5, .ref 51]) (s1 := a4) rfl ?_
            exact kk
          refine UP.stp 1 (i1 := 72) (L1 := [some (.ref 15), some (.ref 2), some (.int mask), some (.int (Int32.ofNat i4)), some (.int v5)]) (st1 := [.int ((a4 51 v5.toNatClampNeg) + v7), .int v5, .ref 51]) (s1 := a4) rfl ?_
          refine nm (G := fun v8 => UP m_X5_takeEvents 72 [some (.ref 15), some (.ref 2), some (.int mask), some (.int (Int32.ofNat i4)), some (.int v5)] [.int v8, .int v5, .ref 51] a4 (Qv (F_takeEvents_a s mask))) ((a4 51 v5.toNatClampNeg) + v7) (fun v8 e8 => ?_)
          refine UP.stp 2 (i1 := 82) (L1 := [some (.ref 15), some (.ref 2), some (.int mask), some (.int (Int32.ofNat i4)), some (.int v5)]) (st1 := []) (s1 := (uset a4 51 v5.toNatClampNeg v8)) rfl ?_
          subst e8 e7
          exact kk
        subst e9
        exact kk
      · skip
        refine UP.ifF rfl cc ?_
        refine UP.stp 9 (i1 := 44) (L1 := [some (.ref 15), some (.ref 2), some (.int mask), some (.int (Int32.ofNat i4)), some (.int v5)]) (st1 := [.int (Int32.ofNat i4), .ref 5, .int 1, .int (a4 50 v5.toNatClampNeg), .int v5, .ref 50]) (s1 := a4) rfl ?_
        refine UP.ald (e := i4) rfl rfl (by omega) ?_
        show UP m_X5_takeEvents 45 [some (.ref 15), some (.ref 2), some (.int mask), some (.int (Int32.ofNat i4)), some (.int v5)] [.int (a4 5 i4), .int 1, .int (a4 50 v5.toNatClampNeg), .int v5, .ref 50] a4 (Qv (F_takeEvents_a s mask))
        refine UP.stp 2 (i1 := 47) (L1 := [some (.ref 15), some (.ref 2), some (.int mask), some (.int (Int32.ofNat i4)), some (.int v5)]) (st1 := [.int ((a4 50 v5.toNatClampNeg) ||| (1 <<< ((a4 5 i4) &&& 31))), .int v5, .ref 50]) (s1 := a4) rfl ?_
        refine nm (G := fun v10 => UP m_X5_takeEvents 47 [some (.ref 15), some (.ref 2), some (.int mask), some (.int (Int32.ofNat i4)), some (.int v5)] [.int v10, .int v5, .ref 50] a4 (Qv (F_takeEvents_a s mask))) ((a4 50 v5.toNatClampNeg) ||| (1 <<< ((a4 5 i4) &&& 31))) (fun v10 e10 => ?_)
        refine UP.stp 2 (i1 := 82) (L1 := [some (.ref 15), some (.ref 2), some (.int mask), some (.int (Int32.ofNat i4)), some (.int v5)]) (st1 := []) (s1 := (uset a4 50 v5.toNatClampNeg v10)) rfl ?_
        subst e10
        exact kk
      subst e11 e5
      exact kk _
    · skip
      refine UP.ifF rfl cc ?_
      refine UP.stp 1 (i1 := 82) (L1 := [some (.ref 15), some (.ref 2), some (.int mask), some (.int (Int32.ofNat i4)), u4_4]) (st1 := []) (s1 := a4) rfl ?_
      exact kk _
    refine UP.stp 2 (i1 := 14) (L1 := [some (.ref 15), some (.ref 2), some (.int mask), some (.int ((Int32.ofNat i4) + 1)), u12]) (st1 := []) (s1 := v13) rfl ?_
    subst e13
    rw [ofn_s]
    try dsimp only [B_takeEvents_a_14] at kk
    exact kk _
  intro u4_4
  refine UP.stp 3 (i1 := 17) (L1 := [some (.ref 15), some (.ref 2), some (.int mask), some (.int (Int32.ofNat ((z3 2 3).toNatClampNeg))), u4_4]) (st1 := [.int (z4 2 3), .int (Int32.ofNat ((z3 2 3).toNatClampNeg))]) (s1 := z4) rfl ?_
  refine UP.icT rfl (by rw [(g4 2 3 rfl)]; exact ge_T _) ?_
  exact UP.ret (r := none) rfl ⟨by subst e4 e3 e2 e1; first | (dsimp only [F_takeEvents_a]; done) | (dsimp only; done) | rfl, by subst e4 e3 e2 e1; first | (dsimp only [F_takeEvents_a]; done) | (dsimp only; done) | rfl⟩
def W_takeRowers_a : List (Nat × Nat × Option Nat) := [(46, 49, none)]
def B_takeRowers_a_2  (i1 : Nat) (a1 : SG) : SG := let v2 := a1 11 i1; let v3 := a1 12 i1; let v5 := bif m_cmp .ne v2 1 then (bif m_cmp .ne v2 2 then v3 else v3 - 1) else v3 + 2; let v7 := bif m_cmp .ne v2 1 then (bif m_cmp .ne v2 2 then v3 else v3 + 1) else v3 - 1; (uset (uset (uset (uset a1 48 i1 v5) 49 i1 v7) 46 i1 0) 47 i1 0)
theorem fr_B_takeRowers_a_2  (i1 : Nat) (a1 : SG)   : Fr W_takeRowers_a a1 ((B_takeRowers_a_2) i1 a1) := by dsimp only [B_takeRowers_a_2]; exact (let v2 : Int32 := a1 11 i1; (let v3 : Int32 := a1 12 i1; (let v5 : Int32 := bif m_cmp .ne v2 1 then (bif m_cmp .ne v2 2 then v3 else v3 - 1) else v3 + 2; (let v7 : Int32 := bif m_cmp .ne v2 1 then (bif m_cmp .ne v2 2 then v3 else v3 + 1) else v3 - 1; (Fr.uset (s1 := (uset (uset (uset a1 48 i1 v5) 49 i1 v7) 46 i1 0)) (a := 47) (j := i1) (x := 0) (by rfl) (Fr.uset (s1 := (uset (uset a1 48 i1 v5) 49 i1 v7)) (a := 46) (j := i1) (x := 0) (by rfl) (Fr.uset (s1 := (uset a1 48 i1 v5)) (a := 49) (j := i1) (x := v7) (by rfl) (Fr.uset (s1 := a1) (a := 48) (j := i1) (x := v5) (by rfl) (Fr.rf _ _)))))))))
def F_takeRowers_a (s : SG)  : SG := let z1 := itr (B_takeRowers_a_2) 0 ((s 10 0).toNatClampNeg) s; z1
theorem fr_takeRowers_a (s : SG)   : Fr W_takeRowers_a s (F_takeRowers_a s) := by dsimp only [F_takeRowers_a]; exact (Fr.itr (W := W_takeRowers_a) (m := (fun x : SG => x)) (f := (B_takeRowers_a_2)) (fun ii aa => Fr.wk (W2 := W_takeRowers_a) (fr_B_takeRowers_a_2  ii aa ) (by rfl)) ((s 10 0).toNatClampNeg) 0 s (Fr.rf _ _))
theorem ux_takeRowers_a (s : SG)   : UP m_X5_takeRowers 0 (m_ent 5 [.ref 15, .ref 10]) [] s (Qv (F_takeRowers_a s)) := by
  refine UP.stp 2 (i1 := 2) (L1 := [some (.ref 15), some (.ref 10), some (.int 0), none, none]) (st1 := []) (s1 := s) rfl ?_
  refine lp (fun (i1 : Nat) (a1 : SG) => ∀ (u1_3 : Option Value) (u1_4 : Option Value), UP m_X5_takeRowers 2 [some (.ref 15), some (.ref 10), some (.int (Int32.ofNat i1)), u1_3, u1_4] [] a1 (Qv (F_takeRowers_a s))) (fun (_ : Nat) (a1 : SG) => Fr W_takeRowers_a s a1) (B_takeRowers_a_2) ((s 10 0).toNatClampNeg) (fun i1 a1 hi1 g1 => g1.tr (fr_B_takeRowers_a_2  i1 a1 )) (fun i1 a1 hi1 g1 kk => ?_) ((s 10 0).toNatClampNeg) (0) s (by  omega) (Fr.rf _ _) (fun z1 e1 g1 => ?_) none none
  · skip
    intro u1_3 u1_4
    have hbi1 := cl_lt (s 10 0)
    refine UP.stp 3 (i1 := 5) (L1 := [some (.ref 15), some (.ref 10), some (.int (Int32.ofNat i1)), u1_3, u1_4]) (st1 := [.int (a1 10 0), .int (Int32.ofNat i1)]) (s1 := a1) rfl ?_
    refine UP.icF rfl (by rw [(g1 10 0 rfl)]; exact ge_F hi1) ?_
    refine UP.stp 3 (i1 := 9) (L1 := [some (.ref 15), some (.ref 10), some (.int (Int32.ofNat i1)), u1_3, u1_4]) (st1 := [.int (Int32.ofNat i1), .ref 11]) (s1 := a1) rfl ?_
    refine UP.ald (e := i1) rfl rfl (by omega) ?_
    show UP m_X5_takeRowers 10 [some (.ref 15), some (.ref 10), some (.int (Int32.ofNat i1)), u1_3, u1_4] [.int (a1 11 i1)] a1 (Qv (F_takeRowers_a s))
    refine nm (G := fun v2 => UP m_X5_takeRowers 10 [some (.ref 15), some (.ref 10), some (.int (Int32.ofNat i1)), u1_3, u1_4] [.int v2] a1 (Qv (F_takeRowers_a s))) (a1 11 i1) (fun v2 e2 => ?_)
    refine UP.stp 4 (i1 := 14) (L1 := [some (.ref 15), some (.ref 10), some (.int (Int32.ofNat i1)), some (.int v2), u1_4]) (st1 := [.int (Int32.ofNat i1), .ref 12]) (s1 := a1) rfl ?_
    refine UP.ald (e := i1) rfl rfl (by omega) ?_
    show UP m_X5_takeRowers 15 [some (.ref 15), some (.ref 10), some (.int (Int32.ofNat i1)), some (.int v2), u1_4] [.int (a1 12 i1)] a1 (Qv (F_takeRowers_a s))
    refine nm (G := fun v3 => UP m_X5_takeRowers 15 [some (.ref 15), some (.ref 10), some (.int (Int32.ofNat i1)), some (.int v2), u1_4] [.int v3] a1 (Qv (F_takeRowers_a s))) (a1 12 i1) (fun v3 e3 => ?_)
    refine UP.stp 6 (i1 := 21) (L1 := [some (.ref 15), some (.ref 10), some (.int (Int32.ofNat i1)), some (.int v2), some (.int v3)]) (st1 := [.int 1, .int v2, .int (Int32.ofNat i1), .ref 48]) (s1 := a1) rfl ?_
    refine mrg (m_cmp .ne v2 1) (bif m_cmp .ne v2 2 then v3 else v3 - 1) (v3 + 2) (fun v5 : Int32 => UP m_X5_takeRowers 34 [some (.ref 15), some (.ref 10), some (.int (Int32.ofNat i1)), some (.int v2), some (.int v3)] [.int v5, .int (Int32.ofNat i1), .ref 48] a1 (Qv (F_takeRowers_a s))) (fun cc kk => ?_) (fun cc kk => ?_) (fun v5 e5 => ?_)
    · skip
      refine UP.icT rfl cc ?_
      refine UP.stp 2 (i1 := 28) (L1 := [some (.ref 15), some (.ref 10), some (.int (Int32.ofNat i1)), some (.int v2), some (.int v3)]) (st1 := [.int 2, .int v2, .int (Int32.ofNat i1), .ref 48]) (s1 := a1) rfl ?_
      refine mrg (m_cmp .ne v2 2) v3 (v3 - 1) (fun v4 : Int32 => UP m_X5_takeRowers 34 [some (.ref 15), some (.ref 10), some (.int (Int32.ofNat i1)), some (.int v2), some (.int v3)] [.int v4, .int (Int32.ofNat i1), .ref 48] a1 (Qv (F_takeRowers_a s))) (fun cc kk => ?_) (fun cc kk => ?_) (fun v4 e4 => ?_)
      · skip
        refine UP.icT rfl cc ?_
        refine UP.stp 1 (i1 := 34) (L1 := [some (.ref 15), some (.ref 10), some (.int (Int32.ofNat i1)), some (.int v2), some (.int v3)]) (st1 := [.int v3, .int (Int32.ofNat i1), .ref 48]) (s1 := a1) rfl ?_
        exact kk
      · skip
        refine UP.icF rfl cc ?_
        refine UP.stp 4 (i1 := 34) (L1 := [some (.ref 15), some (.ref 10), some (.int (Int32.ofNat i1)), some (.int v2), some (.int v3)]) (st1 := [.int (v3 - 1), .int (Int32.ofNat i1), .ref 48]) (s1 := a1) rfl ?_
        exact kk
      subst e4
      exact kk
    · skip
      refine UP.icF rfl cc ?_
      refine UP.stp 4 (i1 := 34) (L1 := [some (.ref 15), some (.ref 10), some (.int (Int32.ofNat i1)), some (.int v2), some (.int v3)]) (st1 := [.int (v3 + 2), .int (Int32.ofNat i1), .ref 48]) (s1 := a1) rfl ?_
      exact kk
    refine UP.ast (e := i1) rfl rfl (by omega) ?_
    show UP m_X5_takeRowers 35 [some (.ref 15), some (.ref 10), some (.int (Int32.ofNat i1)), some (.int v2), some (.int v3)] [] (uset a1 48 i1 v5) (Qv (F_takeRowers_a s))
    refine UP.stp 5 (i1 := 40) (L1 := [some (.ref 15), some (.ref 10), some (.int (Int32.ofNat i1)), some (.int v2), some (.int v3)]) (st1 := [.int 1, .int v2, .int (Int32.ofNat i1), .ref 49]) (s1 := (uset a1 48 i1 v5)) rfl ?_
    refine mrg (m_cmp .ne v2 1) (bif m_cmp .ne v2 2 then v3 else v3 + 1) (v3 - 1) (fun v7 : Int32 => UP m_X5_takeRowers 53 [some (.ref 15), some (.ref 10), some (.int (Int32.ofNat i1)), some (.int v2), some (.int v3)] [.int v7, .int (Int32.ofNat i1), .ref 49] (uset a1 48 i1 v5) (Qv (F_takeRowers_a s))) (fun cc kk => ?_) (fun cc kk => ?_) (fun v7 e7 => ?_)
    · skip
      refine UP.icT rfl cc ?_
      refine UP.stp 2 (i1 := 47) (L1 := [some (.ref 15), some (.ref 10), some (.int (Int32.ofNat i1)), some (.int v2), some (.int v3)]) (st1 := [.int 2, .int v2, .int (Int32.ofNat i1), .ref 49]) (s1 := (uset a1 48 i1 v5)) rfl ?_
      refine mrg (m_cmp .ne v2 2) v3 (v3 + 1) (fun v6 : Int32 => UP m_X5_takeRowers 53 [some (.ref 15), some (.ref 10), some (.int (Int32.ofNat i1)), some (.int v2), some (.int v3)] [.int v6, .int (Int32.ofNat i1), .ref 49] (uset a1 48 i1 v5) (Qv (F_takeRowers_a s))) (fun cc kk => ?_) (fun cc kk => ?_) (fun v6 e6 => ?_)
      · skip
        refine UP.icT rfl cc ?_
        refine UP.stp 1 (i1 := 53) (L1 := [some (.ref 15), some (.ref 10), some (.int (Int32.ofNat i1)), some (.int v2), some (.int v3)]) (st1 := [.int v3, .int (Int32.ofNat i1), .ref 49]) (s1 := (uset a1 48 i1 v5)) rfl ?_
        exact kk
      · skip
        refine UP.icF rfl cc ?_
        refine UP.stp 4 (i1 := 53) (L1 := [some (.ref 15), some (.ref 10), some (.int (Int32.ofNat i1)), some (.int v2), some (.int v3)]) (st1 := [.int (v3 + 1), .int (Int32.ofNat i1), .ref 49]) (s1 := (uset a1 48 i1 v5)) rfl ?_
        exact kk
      subst e6
      exact kk
    · skip
      refine UP.icF rfl cc ?_
      refine UP.stp 4 (i1 := 53) (L1 := [some (.ref 15), some (.ref 10), some (.int (Int32.ofNat i1)), some (.int v2), some (.int v3)]) (st1 := [.int (v3 - 1), .int (Int32.ofNat i1), .ref 49]) (s1 := (uset a1 48 i1 v5)) rfl ?_
      exact kk
    refine UP.ast (e := i1) rfl rfl (by omega) ?_
    show UP m_X5_takeRowers 54 [some (.ref 15), some (.ref 10), some (.int (Int32.ofNat i1)), some (.int v2), some (.int v3)] [] (uset (uset a1 48 i1 v5) 49 i1 v7) (Qv (F_takeRowers_a s))
    refine UP.stp 4 (i1 := 58) (L1 := [some (.ref 15), some (.ref 10), some (.int (Int32.ofNat i1)), some (.int v2), some (.int v3)]) (st1 := [.int 0, .int (Int32.ofNat i1), .ref 46]) (s1 := (uset (uset a1 48 i1 v5) 49 i1 v7)) rfl ?_
    refine UP.ast (e := i1) rfl rfl (by omega) ?_
    show UP m_X5_takeRowers 59 [some (.ref 15), some (.ref 10), some (.int (Int32.ofNat i1)), some (.int v2), some (.int v3)] [] (uset (uset (uset a1 48 i1 v5) 49 i1 v7) 46 i1 0) (Qv (F_takeRowers_a s))
    refine UP.stp 4 (i1 := 63) (L1 := [some (.ref 15), some (.ref 10), some (.int (Int32.ofNat i1)), some (.int v2), some (.int v3)]) (st1 := [.int 0, .int (Int32.ofNat i1), .ref 47]) (s1 := (uset (uset (uset a1 48 i1 v5) 49 i1 v7) 46 i1 0)) rfl ?_
    refine UP.ast (e := i1) rfl rfl (by omega) ?_
    show UP m_X5_takeRowers 64 [some (.ref 15), some (.ref 10), some (.int (Int32.ofNat i1)), some (.int v2), some (.int v3)] [] (uset (uset (uset (uset a1 48 i1 v5) 49 i1 v7) 46 i1 0) 47 i1 0) (Qv (F_takeRowers_a s))
    refine UP.stp 2 (i1 := 2) (L1 := [some (.ref 15), some (.ref 10), some (.int ((Int32.ofNat i1) + 1)), some (.int v2), some (.int v3)]) (st1 := []) (s1 := (uset (uset (uset (uset a1 48 i1 v5) 49 i1 v7) 46 i1 0) 47 i1 0)) rfl ?_
    subst e7 e5 e3 e2
    rw [ofn_s]
    try dsimp only [B_takeRowers_a_2] at kk
    exact kk _ _
  intro u1_3 u1_4
  refine UP.stp 3 (i1 := 5) (L1 := [some (.ref 15), some (.ref 10), some (.int (Int32.ofNat ((s 10 0).toNatClampNeg))), u1_3, u1_4]) (st1 := [.int (z1 10 0), .int (Int32.ofNat ((s 10 0).toNatClampNeg))]) (s1 := z1) rfl ?_
  refine UP.icT rfl (by rw [(g1 10 0 rfl)]; exact ge_T _) ?_
  exact UP.ret (r := none) rfl ⟨by subst e1; first | (dsimp only [F_takeRowers_a]; done) | (dsimp only; done) | rfl, by subst e1; first | (dsimp only [F_takeRowers_a]; done) | (dsimp only; done) | rfl⟩
def W_pullAll_a : List (Nat × Nat × Option Nat) := [(18, 19, none), (22, 45, none), (46, 47, none)]
def B_pullAll_a_33 (t : Nat) (v3 : Int32) (i4 : Nat) (a4 : SG × Int32 × Int32) : SG × Int32 × Int32 := let w8 := bif m_cmp .ne ((v3 >>> ((Int32.ofNat i4) &&& 31)) &&& (1 : Int32)) 0 then ((0 : Int32), a4.1) else ((bif m_cmp .ge (a4.1 46 i4) 6 then a4.1 49 i4 else a4.1 48 i4), (uset (uset a4.1 46 i4 ((a4.1 46 i4) + 1)) 47 i4 ((a4.1 47 i4) + (bif m_cmp .ge (a4.1 46 i4) 6 then a4.1 49 i4 else a4.1 48 i4)))); let w11 := bif m_cmp .ne ((Int32.ofNat i4) - (Int32.ofNat i4) / 2 * 2) 0 then (a4.2.1, (a4.2.2 + w8.1)) else ((a4.2.1 + w8.1), a4.2.2); ((uset w8.2 (22 + t) i4 w8.1), w11.1, w11.2)
theorem fr_B_pullAll_a_33 (t : Nat) (v3 : Int32) (i4 : Nat) (a4 : SG × Int32 × Int32) (ht : t < 24)  : Fr W_pullAll_a a4.1 ((B_pullAll_a_33 t v3) i4 a4).1 := by dsimp only [B_pullAll_a_33]; exact (let w8 : Int32 × SG := bif m_cmp .ne ((v3 >>> ((Int32.ofNat i4) &&& 31)) &&& (1 : Int32)) 0 then ((0 : Int32), a4.1) else ((bif m_cmp .ge (a4.1 46 i4) 6 then a4.1 49 i4 else a4.1 48 i4), (uset (uset a4.1 46 i4 ((a4.1 46 i4) + 1)) 47 i4 ((a4.1 47 i4) + (bif m_cmp .ge (a4.1 46 i4) 6 then a4.1 49 i4 else a4.1 48 i4)))); (Fr.uset (s1 := w8.2) (a := 22 + t) (j := i4) (x := w8.1) (inW_r 22 45 (by omega) (by omega) rfl) (Fr.bifp (b := m_cmp .ne ((v3 >>> ((Int32.ofNat i4) &&& 31)) &&& (1 : Int32)) 0) (x := ((0 : Int32), a4.1)) (y := ((bif m_cmp .ge (a4.1 46 i4) 6 then a4.1 49 i4 else a4.1 48 i4), (uset (uset a4.1 46 i4 ((a4.1 46 i4) + 1)) 47 i4 ((a4.1 47 i4) + (bif m_cmp .ge (a4.1 46 i4) 6 then a4.1 49 i4 else a4.1 48 i4))))) (fun x : Int32 × SG => x.2) (by (try dsimp only); exact (Fr.rf _ _)) (by (try dsimp only); exact (Fr.uset (s1 := (uset a4.1 46 i4 ((a4.1 46 i4) + 1))) (a := 47) (j := i4) (x := ((a4.1 47 i4) + (bif m_cmp .ge (a4.1 46 i4) 6 then a4.1 49 i4 else a4.1 48 i4))) (by rfl) (Fr.uset (s1 := a4.1) (a := 46) (j := i4) (x := ((a4.1 46 i4) + 1)) (by rfl) (Fr.rf _ _)))))))
def F_pullAll_a (s : SG) (t : Nat) : SG := let v2 := bif m_cmp .ne (s 15 8) (-1) then (0 : Int32) else (bif m_cmp .le (s 13 t) 0 then (0 : Int32) else (1 : Int32)); let v3 := bif m_cmp .eq v2 0 then (255 : Int32) else s 50 t; let z4 := itr (B_pullAll_a_33 t v3) 0 ((s 10 0).toNatClampNeg) (s, 0, 0); (uset (uset z4.1 18 t z4.2.1) 19 t z4.2.2)
theorem fr_pullAll_a (s : SG) (t : Nat) (ht : t < 24) : Fr W_pullAll_a s (F_pullAll_a s t) := by dsimp only [F_pullAll_a]; exact (let v2 : Int32 := bif m_cmp .ne (s 15 8) (-1) then (0 : Int32) else (bif m_cmp .le (s 13 t) 0 then (0 : Int32) else (1 : Int32)); (let v3 : Int32 := bif m_cmp .eq v2 0 then (255 : Int32) else s 50 t; (let z4 : SG × Int32 × Int32 := itr (B_pullAll_a_33 t v3) 0 ((s 10 0).toNatClampNeg) (s, 0, 0); (Fr.uset (s1 := (uset z4.1 18 t z4.2.1)) (a := 19) (j := t) (x := z4.2.2) (by rfl) (Fr.uset (s1 := z4.1) (a := 18) (j := t) (x := z4.2.1) (by rfl) (Fr.itr (W := W_pullAll_a) (m := (fun x : SG × Int32 × Int32 => x.1)) (f := (B_pullAll_a_33 t v3)) (fun ii aa => Fr.wk (W2 := W_pullAll_a) (fr_B_pullAll_a_33 t v3 ii aa ht) (by rfl)) ((s 10 0).toNatClampNeg) 0 (s, 0, 0) (Fr.rf _ _)))))))
theorem ux_pullAll_a (s : SG) (t : Nat) (ht : t < 24) : UP m_X5_pullAll 0 (m_ent 10 [.ref 15, .ref 10, .int (Int32.ofNat t)]) [] s (Qv (F_pullAll_a s t)) := by
  refine UP.stp 3 (i1 := 3) (L1 := [some (.ref 15), some (.ref 10), some (.int (Int32.ofNat t)), none, none, none, none, none, none, none]) (st1 := [.int (-1), .int (s 15 8)]) (s1 := s) rfl ?_
  refine mrg (m_cmp .ne (s 15 8) (-1)) (0 : Int32) (bif m_cmp .le (s 13 t) 0 then (0 : Int32) else (1 : Int32)) (fun v2 : Int32 => UP m_X5_pullAll 12 [some (.ref 15), some (.ref 10), some (.int (Int32.ofNat t)), none, none, none, none, none, none, none] [.int v2] s (Qv (F_pullAll_a s t))) (fun cc kk => ?_) (fun cc kk => ?_) (fun v2 e2 => ?_)
  · skip
    refine UP.icT rfl cc ?_
    refine UP.stp 1 (i1 := 12) (L1 := [some (.ref 15), some (.ref 10), some (.int (Int32.ofNat t)), none, none, none, none, none, none, none]) (st1 := [.int 0]) (s1 := s) rfl ?_
    exact kk
  · skip
    refine UP.icF rfl cc ?_
    refine UP.stp 3 (i1 := 7) (L1 := [some (.ref 15), some (.ref 10), some (.int (Int32.ofNat t)), none, none, none, none, none, none, none]) (st1 := [.int (Int32.ofNat t), .ref 13]) (s1 := s) rfl ?_
    refine UP.ald (e := t) rfl rfl (by omega) ?_
    show UP m_X5_pullAll 8 [some (.ref 15), some (.ref 10), some (.int (Int32.ofNat t)), none, none, none, none, none, none, none] [.int (s 13 t)] s (Qv (F_pullAll_a s t))
    refine mrg (m_cmp .le (s 13 t) 0) (0 : Int32) (1 : Int32) (fun v1 : Int32 => UP m_X5_pullAll 12 [some (.ref 15), some (.ref 10), some (.int (Int32.ofNat t)), none, none, none, none, none, none, none] [.int v1] s (Qv (F_pullAll_a s t))) (fun cc kk => ?_) (fun cc kk => ?_) (fun v1 e1 => ?_)
    · skip
      refine UP.ifT rfl cc ?_
      refine UP.stp 1 (i1 := 12) (L1 := [some (.ref 15), some (.ref 10), some (.int (Int32.ofNat t)), none, none, none, none, none, none, none]) (st1 := [.int 0]) (s1 := s) rfl ?_
      exact kk
    · skip
      refine UP.ifF rfl cc ?_
      refine UP.stp 2 (i1 := 12) (L1 := [some (.ref 15), some (.ref 10), some (.int (Int32.ofNat t)), none, none, none, none, none, none, none]) (st1 := [.int 1]) (s1 := s) rfl ?_
      exact kk
    subst e1
    exact kk
  refine UP.stp 2 (i1 := 14) (L1 := [some (.ref 15), some (.ref 10), some (.int (Int32.ofNat t)), some (.int v2), none, none, none, none, none, none]) (st1 := [.int v2]) (s1 := s) rfl ?_
  refine mrg (m_cmp .eq v2 0) (255 : Int32) (s 50 t) (fun v3 : Int32 => UP m_X5_pullAll 21 [some (.ref 15), some (.ref 10), some (.int (Int32.ofNat t)), some (.int v2), none, none, none, none, none, none] [.int v3] s (Qv (F_pullAll_a s t))) (fun cc kk => ?_) (fun cc kk => ?_) (fun v3 e3 => ?_)
  · skip
    refine UP.ifT rfl cc ?_
    refine UP.stp 1 (i1 := 21) (L1 := [some (.ref 15), some (.ref 10), some (.int (Int32.ofNat t)), some (.int v2), none, none, none, none, none, none]) (st1 := [.int 255]) (s1 := s) rfl ?_
    exact kk
  · skip
    refine UP.ifF rfl cc ?_
    refine UP.stp 3 (i1 := 18) (L1 := [some (.ref 15), some (.ref 10), some (.int (Int32.ofNat t)), some (.int v2), none, none, none, none, none, none]) (st1 := [.int (Int32.ofNat t), .ref 50]) (s1 := s) rfl ?_
    refine UP.ald (e := t) rfl rfl (by omega) ?_
    show UP m_X5_pullAll 19 [some (.ref 15), some (.ref 10), some (.int (Int32.ofNat t)), some (.int v2), none, none, none, none, none, none] [.int (s 50 t)] s (Qv (F_pullAll_a s t))
    refine UP.stp 1 (i1 := 21) (L1 := [some (.ref 15), some (.ref 10), some (.int (Int32.ofNat t)), some (.int v2), none, none, none, none, none, none]) (st1 := [.int (s 50 t)]) (s1 := s) rfl ?_
    exact kk
  refine UP.stp 4 (i1 := 25) (L1 := [some (.ref 15), some (.ref 10), some (.int (Int32.ofNat t)), some (.int v2), some (.int v3), none, none, none, none, none]) (st1 := [.int (Int32.ofNat t), .ref 21]) (s1 := s) rfl ?_
  refine UP.aald (e := t) (r := 22 + t) rfl rfl (by omega) rfl ?_
  refine UP.stp 7 (i1 := 33) (L1 := [some (.ref 15), some (.ref 10), some (.int (Int32.ofNat t)), some (.int v2), some (.int v3), some (.ref (22 + t)), some (.int 0), some (.int 0), some (.int 0), none]) (st1 := []) (s1 := s) rfl ?_
  refine lp (fun (i4 : Nat) (a4 : SG × Int32 × Int32) => ∀ (u4_3 : Option Value) (u4_9 : Option Value), UP m_X5_pullAll 33 [some (.ref 15), some (.ref 10), some (.int (Int32.ofNat t)), u4_3, some (.int v3), some (.ref (22 + t)), some (.int a4.2.1), some (.int a4.2.2), some (.int (Int32.ofNat i4)), u4_9] [] a4.1 (Qv (F_pullAll_a s t))) (fun (_ : Nat) (a4 : SG × Int32 × Int32) => Fr W_pullAll_a s a4.1) (B_pullAll_a_33 t v3) ((s 10 0).toNatClampNeg) (fun i4 a4 hi4 g4 => g4.tr (fr_B_pullAll_a_33 t v3 i4 a4 ht)) (fun i4 a4 hi4 g4 kk => ?_) ((s 10 0).toNatClampNeg) (0) (s, 0, 0) (by  omega) (Fr.rf _ _) (fun z4 e4 g4 => ?_) (some (.int v2)) none
  · skip
    intro u4_3 u4_9
    have hbi4 := cl_lt (s 10 0)
    refine UP.stp 3 (i1 := 36) (L1 := [some (.ref 15), some (.ref 10), some (.int (Int32.ofNat t)), u4_3, some (.int v3), some (.ref (22 + t)), some (.int a4.2.1), some (.int a4.2.2), some (.int (Int32.ofNat i4)), u4_9]) (st1 := [.int (a4.1 10 0), .int (Int32.ofNat i4)]) (s1 := a4.1) rfl ?_
    refine UP.icF rfl (by rw [(g4 10 0 rfl)]; exact ge_F hi4) ?_
    refine UP.stp 7 (i1 := 44) (L1 := [some (.ref 15), some (.ref 10), some (.int (Int32.ofNat t)), u4_3, some (.int v3), some (.ref (22 + t)), some (.int a4.2.1), some (.int a4.2.2), some (.int (Int32.ofNat i4)), some (.int 0)]) (st1 := [.int ((v3 >>> ((Int32.ofNat i4) &&& 31)) &&& (1 : Int32))]) (s1 := a4.1) rfl ?_
    refine mrg (m_cmp .ne ((v3 >>> ((Int32.ofNat i4) &&& 31)) &&& (1 : Int32)) 0) ((0 : Int32), a4.1) ((bif m_cmp .ge (a4.1 46 i4) 6 then a4.1 49 i4 else a4.1 48 i4), (uset (uset a4.1 46 i4 ((a4.1 46 i4) + 1)) 47 i4 ((a4.1 47 i4) + (bif m_cmp .ge (a4.1 46 i4) 6 then a4.1 49 i4 else a4.1 48 i4)))) (fun w8 : Int32 × SG => UP m_X5_pullAll 77 [some (.ref 15), some (.ref 10), some (.int (Int32.ofNat t)), u4_3, some (.int v3), some (.ref (22 + t)), some (.int a4.2.1), some (.int a4.2.2), some (.int (Int32.ofNat i4)), some (.int w8.1)] [] w8.2 (Qv (F_pullAll_a s t))) (fun cc kk => ?_) (fun cc kk => ?_) (fun w8 e8 => ?_)
    · skip
      refine UP.ifT rfl cc ?_
      exact kk
    · skip
      refine UP.ifF rfl cc ?_
      refine UP.stp 3 (i1 := 48) (L1 := [some (.ref 15), some (.ref 10), some (.int (Int32.ofNat t)), u4_3, some (.int v3), some (.ref (22 + t)), some (.int a4.2.1), some (.int a4.2.2), some (.int (Int32.ofNat i4)), some (.int 0)]) (st1 := [.int (Int32.ofNat i4), .ref 46]) (s1 := a4.1) rfl ?_
      refine UP.ald (e := i4) rfl rfl (by omega) ?_
      show UP m_X5_pullAll 49 [some (.ref 15), some (.ref 10), some (.int (Int32.ofNat t)), u4_3, some (.int v3), some (.ref (22 + t)), some (.int a4.2.1), some (.int a4.2.2), some (.int (Int32.ofNat i4)), some (.int 0)] [.int (a4.1 46 i4)] a4.1 (Qv (F_pullAll_a s t))
      refine UP.stp 1 (i1 := 50) (L1 := [some (.ref 15), some (.ref 10), some (.int (Int32.ofNat t)), u4_3, some (.int v3), some (.ref (22 + t)), some (.int a4.2.1), some (.int a4.2.2), some (.int (Int32.ofNat i4)), some (.int 0)]) (st1 := [.int 6, .int (a4.1 46 i4)]) (s1 := a4.1) rfl ?_
      refine mrg (m_cmp .ge (a4.1 46 i4) 6) (a4.1 49 i4) (a4.1 48 i4) (fun v5 : Int32 => UP m_X5_pullAll 60 [some (.ref 15), some (.ref 10), some (.int (Int32.ofNat t)), u4_3, some (.int v3), some (.ref (22 + t)), some (.int a4.2.1), some (.int a4.2.2), some (.int (Int32.ofNat i4)), some (.int 0)] [.int v5] a4.1 (Qv (F_pullAll_a s t))) (fun cc kk => ?_) (fun cc kk => ?_) (fun v5 e5 => ?_)
      · skip
        refine UP.icT rfl cc ?_
        refine UP.stp 3 (i1 := 59) (L1 := [some (.ref 15), some (.ref 10), some (.int (Int32.ofNat t)), u4_3, some (.int v3), some (.ref (22 + t)), some (.int a4.2.1), some (.int a4.2.2), some (.int (Int32.ofNat i4)), some (.int 0)]) (st1 := [.int (Int32.ofNat i4), .ref 49]) (s1 := a4.1) rfl ?_
        refine UP.ald (e := i4) rfl rfl (by omega) ?_
        show UP m_X5_pullAll 60 [some (.ref 15), some (.ref 10), some (.int (Int32.ofNat t)), u4_3, some (.int v3), some (.ref (22 + t)), some (.int a4.2.1), some (.int a4.2.2), some (.int (Int32.ofNat i4)), some (.int 0)] [.int (a4.1 49 i4)] a4.1 (Qv (F_pullAll_a s t))
        exact kk
      · skip
        refine UP.icF rfl cc ?_
        refine UP.stp 3 (i1 := 54) (L1 := [some (.ref 15), some (.ref 10), some (.int (Int32.ofNat t)), u4_3, some (.int v3), some (.ref (22 + t)), some (.int a4.2.1), some (.int a4.2.2), some (.int (Int32.ofNat i4)), some (.int 0)]) (st1 := [.int (Int32.ofNat i4), .ref 48]) (s1 := a4.1) rfl ?_
        refine UP.ald (e := i4) rfl rfl (by omega) ?_
        show UP m_X5_pullAll 55 [some (.ref 15), some (.ref 10), some (.int (Int32.ofNat t)), u4_3, some (.int v3), some (.ref (22 + t)), some (.int a4.2.1), some (.int a4.2.2), some (.int (Int32.ofNat i4)), some (.int 0)] [.int (a4.1 48 i4)] a4.1 (Qv (F_pullAll_a s t))
        refine UP.stp 1 (i1 := 60) (L1 := [some (.ref 15), some (.ref 10), some (.int (Int32.ofNat t)), u4_3, some (.int v3), some (.ref (22 + t)), some (.int a4.2.1), some (.int a4.2.2), some (.int (Int32.ofNat i4)), some (.int 0)]) (st1 := [.int (a4.1 48 i4)]) (s1 := a4.1) rfl ?_
        exact kk
      refine UP.stp 5 (i1 := 65) (L1 := [some (.ref 15), some (.ref 10), some (.int (Int32.ofNat t)), u4_3, some (.int v3), some (.ref (22 + t)), some (.int a4.2.1), some (.int a4.2.2), some (.int (Int32.ofNat i4)), some (.int v5)]) (st1 := [.int (Int32.ofNat i4), .ref 46, .int (Int32.ofNat i4), .ref 46]) (s1 := a4.1) rfl ?_
      refine UP.ald (e := i4) rfl rfl (by omega) ?_
      show UP m_X5_pullAll 66 [some (.ref 15), some (.ref 10), some (.int (Int32.ofNat t)), u4_3, some (.int v3), some (.ref (22 + t)), some (.int a4.2.1), some (.int a4.2.2), some (.int (Int32.ofNat i4)), some (.int v5)] [.int (a4.1 46 i4), .int (Int32.ofNat i4), .ref 46] a4.1 (Qv (F_pullAll_a s t))
      refine UP.stp 2 (i1 := 68) (L1 := [some (.ref 15), some (.ref 10), some (.int (Int32.ofNat t)), u4_3, some (.int v3), some (.ref (22 + t)), some (.int a4.2.1), some (.int a4.2.2), some (.int (Int32.ofNat i4)), some (.int v5)]) (st1 := [.int ((a4.1 46 i4) + 1), .int (Int32.ofNat i4), .ref 46]) (s1 := a4.1) rfl ?_
      refine nm (G := fun v6 => UP m_X5_pullAll 68 [some (.ref 15), some (.ref 10), some (.int (Int32.ofNat t)), u4_3, some (.int v3), some (.ref (22 + t)), some (.int a4.2.1), some (.int a4.2.2), some (.int (Int32.ofNat i4)), some (.int v5)] [.int v6, .int (Int32.ofNat i4), .ref 46] a4.1 (Qv (F_pullAll_a s t))) ((a4.1 46 i4) + 1) (fun v6 e6 => ?_)
      refine UP.ast (e := i4) rfl rfl (by omega) ?_
      show UP m_X5_pullAll 69 [some (.ref 15), some (.ref 10), some (.int (Int32.ofNat t)), u4_3, some (.int v3), some (.ref (22 + t)), some (.int a4.2.1), some (.int a4.2.2), some (.int (Int32.ofNat i4)), some (.int v5)] [] (uset a4.1 46 i4 v6) (Qv (F_pullAll_a s t))
      refine UP.stp 4 (i1 := 73) (L1 := [some (.ref 15), some (.ref 10), some (.int (Int32.ofNat t)), u4_3, some (.int v3), some (.ref (22 + t)), some (.int a4.2.1), some (.int a4.2.2), some (.int (Int32.ofNat i4)), some (.int v5)]) (st1 := [.int (Int32.ofNat i4), .ref 47, .int (Int32.ofNat i4), .ref 47]) (s1 := (uset a4.1 46 i4 v6)) rfl ?_
      refine UP.ald (e := i4) rfl rfl (by omega) ?_
      show UP m_X5_pullAll 74 [some (.ref 15), some (.ref 10), some (.int (Int32.ofNat t)), u4_3, some (.int v3), some (.ref (22 + t)), some (.int a4.2.1), some (.int a4.2.2), some (.int (Int32.ofNat i4)), some (.int v5)] [.int (a4.1 47 i4), .int (Int32.ofNat i4), .ref 47] (uset a4.1 46 i4 v6) (Qv (F_pullAll_a s t))
      refine UP.stp 2 (i1 := 76) (L1 := [some (.ref 15), some (.ref 10), some (.int (Int32.ofNat t)), u4_3, some (.int v3), some (.ref (22 + t)), some (.int a4.2.1), some (.int a4.2.2), some (.int (Int32.ofNat i4)), some (.int v5)]) (st1 := [.int ((a4.1 47 i4) + v5), .int (Int32.ofNat i4), .ref 47]) (s1 := (uset a4.1 46 i4 v6)) rfl ?_
      refine nm (G := fun v7 => UP m_X5_pullAll 76 [some (.ref 15), some (.ref 10), some (.int (Int32.ofNat t)), u4_3, some (.int v3), some (.ref (22 + t)), some (.int a4.2.1), some (.int a4.2.2), some (.int (Int32.ofNat i4)), some (.int v5)] [.int v7, .int (Int32.ofNat i4), .ref 47] (uset a4.1 46 i4 v6) (Qv (F_pullAll_a s t))) ((a4.1 47 i4) + v5) (fun v7 e7 => ?_)
      refine UP.ast (e := i4) rfl rfl (by omega) ?_
      show UP m_X5_pullAll 77 [some (.ref 15), some (.ref 10), some (.int (Int32.ofNat t)), u4_3, some (.int v3), some (.ref (22 + t)), some (.int a4.2.1), some (.int a4.2.2), some (.int (Int32.ofNat i4)), some (.int v5)] [] (uset (uset a4.1 46 i4 v6) 47 i4 v7) (Qv (F_pullAll_a s t))
      subst e7 e6 e5
      exact kk
    refine UP.stp 3 (i1 := 80) (L1 := [some (.ref 15), some (.ref 10), some (.int (Int32.ofNat t)), u4_3, some (.int v3), some (.ref (22 + t)), some (.int a4.2.1), some (.int a4.2.2), some (.int (Int32.ofNat i4)), some (.int w8.1)]) (st1 := [.int w8.1, .int (Int32.ofNat i4), .ref (22 + t)]) (s1 := w8.2) rfl ?_
    refine UP.ast (e := i4) rfl rfl (by omega) ?_
    show UP m_X5_pullAll 81 [some (.ref 15), some (.ref 10), some (.int (Int32.ofNat t)), u4_3, some (.int v3), some (.ref (22 + t)), some (.int a4.2.1), some (.int a4.2.2), some (.int (Int32.ofNat i4)), some (.int w8.1)] [] (uset w8.2 (22 + t) i4 w8.1) (Qv (F_pullAll_a s t))
    refine UP.stp 3 (i1 := 84) (L1 := [some (.ref 15), some (.ref 10), some (.int (Int32.ofNat t)), u4_3, some (.int v3), some (.ref (22 + t)), some (.int a4.2.1), some (.int a4.2.2), some (.int (Int32.ofNat i4)), some (.int w8.1)]) (st1 := [.int ((Int32.ofNat i4) - (Int32.ofNat i4) / 2 * 2)]) (s1 := (uset w8.2 (22 + t) i4 w8.1)) rfl ?_
    refine mrg (m_cmp .ne ((Int32.ofNat i4) - (Int32.ofNat i4) / 2 * 2) 0) (a4.2.1, (a4.2.2 + w8.1)) ((a4.2.1 + w8.1), a4.2.2) (fun w11 : Int32 × Int32 => UP m_X5_pullAll 94 [some (.ref 15), some (.ref 10), some (.int (Int32.ofNat t)), u4_3, some (.int v3), some (.ref (22 + t)), some (.int w11.1), some (.int w11.2), some (.int (Int32.ofNat i4)), some (.int w8.1)] [] (uset w8.2 (22 + t) i4 w8.1) (Qv (F_pullAll_a s t))) (fun cc kk => ?_) (fun cc kk => ?_) (fun w11 e11 => ?_)
    · skip
      refine UP.ifT rfl cc ?_
      refine UP.stp 3 (i1 := 93) (L1 := [some (.ref 15), some (.ref 10), some (.int (Int32.ofNat t)), u4_3, some (.int v3), some (.ref (22 + t)), some (.int a4.2.1), some (.int a4.2.2), some (.int (Int32.ofNat i4)), some (.int w8.1)]) (st1 := [.int (a4.2.2 + w8.1)]) (s1 := (uset w8.2 (22 + t) i4 w8.1)) rfl ?_
      refine nm (G := fun v9 => UP m_X5_pullAll 93 [some (.ref 15), some (.ref 10), some (.int (Int32.ofNat t)), u4_3, some (.int v3), some (.ref (22 + t)), some (.int a4.2.1), some (.int a4.2.2), some (.int (Int32.ofNat i4)), some (.int w8.1)] [.int v9] (uset w8.2 (22 + t) i4 w8.1) (Qv (F_pullAll_a s t))) (a4.2.2 + w8.1) (fun v9 e9 => ?_)
      refine UP.stp 1 (i1 := 94) (L1 := [some (.ref 15), some (.ref 10), some (.int (Int32.ofNat t)), u4_3, some (.int v3), some (.ref (22 + t)), some (.int a4.2.1), some (.int v9), some (.int (Int32.ofNat i4)), some (.int w8.1)]) (st1 := []) (s1 := (uset w8.2 (22 + t) i4 w8.1)) rfl ?_
      subst e9
      exact kk
    · skip
      refine UP.ifF rfl cc ?_
      refine UP.stp 3 (i1 := 88) (L1 := [some (.ref 15), some (.ref 10), some (.int (Int32.ofNat t)), u4_3, some (.int v3), some (.ref (22 + t)), some (.int a4.2.1), some (.int a4.2.2), some (.int (Int32.ofNat i4)), some (.int w8.1)]) (st1 := [.int (a4.2.1 + w8.1)]) (s1 := (uset w8.2 (22 + t) i4 w8.1)) rfl ?_
      refine nm (G := fun v10 => UP m_X5_pullAll 88 [some (.ref 15), some (.ref 10), some (.int (Int32.ofNat t)), u4_3, some (.int v3), some (.ref (22 + t)), some (.int a4.2.1), some (.int a4.2.2), some (.int (Int32.ofNat i4)), some (.int w8.1)] [.int v10] (uset w8.2 (22 + t) i4 w8.1) (Qv (F_pullAll_a s t))) (a4.2.1 + w8.1) (fun v10 e10 => ?_)
      refine UP.stp 2 (i1 := 94) (L1 := [some (.ref 15), some (.ref 10), some (.int (Int32.ofNat t)), u4_3, some (.int v3), some (.ref (22 + t)), some (.int v10), some (.int a4.2.2), some (.int (Int32.ofNat i4)), some (.int w8.1)]) (st1 := []) (s1 := (uset w8.2 (22 + t) i4 w8.1)) rfl ?_
      subst e10
      exact kk
    refine UP.stp 2 (i1 := 33) (L1 := [some (.ref 15), some (.ref 10), some (.int (Int32.ofNat t)), u4_3, some (.int v3), some (.ref (22 + t)), some (.int w11.1), some (.int w11.2), some (.int ((Int32.ofNat i4) + 1)), some (.int w8.1)]) (st1 := []) (s1 := (uset w8.2 (22 + t) i4 w8.1)) rfl ?_
    subst e11 e8
    rw [ofn_s]
    try dsimp only [B_pullAll_a_33] at kk
    exact kk _ _
  intro u4_3 u4_9
  refine UP.stp 3 (i1 := 36) (L1 := [some (.ref 15), some (.ref 10), some (.int (Int32.ofNat t)), u4_3, some (.int v3), some (.ref (22 + t)), some (.int z4.2.1), some (.int z4.2.2), some (.int (Int32.ofNat ((s 10 0).toNatClampNeg))), u4_9]) (st1 := [.int (z4.1 10 0), .int (Int32.ofNat ((s 10 0).toNatClampNeg))]) (s1 := z4.1) rfl ?_
  refine UP.icT rfl (by rw [(g4 10 0 rfl)]; exact ge_T _) ?_
  refine UP.stp 4 (i1 := 100) (L1 := [some (.ref 15), some (.ref 10), some (.int (Int32.ofNat t)), u4_3, some (.int v3), some (.ref (22 + t)), some (.int z4.2.1), some (.int z4.2.2), some (.int (Int32.ofNat ((s 10 0).toNatClampNeg))), u4_9]) (st1 := [.int z4.2.1, .int (Int32.ofNat t), .ref 18]) (s1 := z4.1) rfl ?_
  refine UP.ast (e := t) rfl rfl (by omega) ?_
  show UP m_X5_pullAll 101 [some (.ref 15), some (.ref 10), some (.int (Int32.ofNat t)), u4_3, some (.int v3), some (.ref (22 + t)), some (.int z4.2.1), some (.int z4.2.2), some (.int (Int32.ofNat ((s 10 0).toNatClampNeg))), u4_9] [] (uset z4.1 18 t z4.2.1) (Qv (F_pullAll_a s t))
  refine UP.stp 4 (i1 := 105) (L1 := [some (.ref 15), some (.ref 10), some (.int (Int32.ofNat t)), u4_3, some (.int v3), some (.ref (22 + t)), some (.int z4.2.1), some (.int z4.2.2), some (.int (Int32.ofNat ((s 10 0).toNatClampNeg))), u4_9]) (st1 := [.int z4.2.2, .int (Int32.ofNat t), .ref 19]) (s1 := (uset z4.1 18 t z4.2.1)) rfl ?_
  refine UP.ast (e := t) rfl rfl (by omega) ?_
  show UP m_X5_pullAll 106 [some (.ref 15), some (.ref 10), some (.int (Int32.ofNat t)), u4_3, some (.int v3), some (.ref (22 + t)), some (.int z4.2.1), some (.int z4.2.2), some (.int (Int32.ofNat ((s 10 0).toNatClampNeg))), u4_9] [] (uset (uset z4.1 18 t z4.2.1) 19 t z4.2.2) (Qv (F_pullAll_a s t))
  exact UP.ret (r := none) rfl ⟨by subst e4 e3 e2; first | (dsimp only [F_pullAll_a]; done) | (dsimp only; done) | rfl, by subst e4 e3 e2; first | (dsimp only [F_pullAll_a]; done) | (dsimp only; done) | rfl⟩
def W_placeBehind_a : List (Nat × Nat × Option Nat) := [(20, 20, none)]
def F_placeBehind_a (s : SG) (t : Nat) (p : Int32) : Int32 × SG := let v1 := ((s 13 t) * ((s 18 t) - (s 19 t))) / 6; let v2 := s 14 t; let v4 := bif m_cmp .ne v2 2 then (bif m_cmp .ne v2 1 then (0 : Int32) else (-1 : Int32)) else (1 : Int32); let v5 := ((p + v1) + v4) + (s 51 t); bif m_cmp .le v5 0 then (let v8 := bif m_cmp .gt v5 0 then (20 : Int32) else (0 : Int32); (v8, (uset s 20 t 1))) else (bif m_cmp .ge v5 20 then (let v11 := bif m_cmp .gt v5 0 then (20 : Int32) else (0 : Int32); (v11, (uset s 20 t 1))) else ((v5, s)))
theorem fr_placeBehind_a (s : SG) (t : Nat) (p : Int32)  : Fr W_placeBehind_a s (F_placeBehind_a s t p).2 := by dsimp only [F_placeBehind_a]; exact (let v1 : Int32 := ((s 13 t) * ((s 18 t) - (s 19 t))) / 6; (let v2 : Int32 := s 14 t; (let v4 : Int32 := bif m_cmp .ne v2 2 then (bif m_cmp .ne v2 1 then (0 : Int32) else (-1 : Int32)) else (1 : Int32); (let v5 : Int32 := ((p + v1) + v4) + (s 51 t); (Fr.bifp (b := m_cmp .le v5 0) (x := let v8 := bif m_cmp .gt v5 0 then (20 : Int32) else (0 : Int32); (v8, (uset s 20 t 1))) (y := bif m_cmp .ge v5 20 then (let v11 := bif m_cmp .gt v5 0 then (20 : Int32) else (0 : Int32); (v11, (uset s 20 t 1))) else ((v5, s))) (fun x : Int32 × SG => x.2) (by (try dsimp only); exact (Fr.uset (s1 := s) (a := 20) (j := t) (x := 1) (by rfl) (Fr.rf _ _))) (by (try dsimp only); exact (Fr.bifp (b := m_cmp .ge v5 20) (x := let v11 := bif m_cmp .gt v5 0 then (20 : Int32) else (0 : Int32); (v11, (uset s 20 t 1))) (y := (v5, s)) (fun x : Int32 × SG => x.2) (by (try dsimp only); exact (Fr.uset (s1 := s) (a := 20) (j := t) (x := 1) (by rfl) (Fr.rf _ _))) (by (try dsimp only); exact (Fr.rf _ _)))))))))
theorem ux_placeBehind_a (s : SG) (t : Nat) (p : Int32) (ht : t < 24) : UP m_X5_placeBehind 0 (m_ent 8 [.ref 15, .ref 10, .int (Int32.ofNat t), .int p]) [] s (Qb (F_placeBehind_a s t p)) := by
  refine UP.stp 3 (i1 := 3) (L1 := [some (.ref 15), some (.ref 10), some (.int (Int32.ofNat t)), some (.int p), none, none, none, none]) (st1 := [.int (Int32.ofNat t), .ref 13]) (s1 := s) rfl ?_
  refine UP.ald (e := t) rfl rfl (by omega) ?_
  show UP m_X5_placeBehind 4 [some (.ref 15), some (.ref 10), some (.int (Int32.ofNat t)), some (.int p), none, none, none, none] [.int (s 13 t)] s (Qb (F_placeBehind_a s t p))
  refine UP.stp 3 (i1 := 7) (L1 := [some (.ref 15), some (.ref 10), some (.int (Int32.ofNat t)), some (.int p), none, none, none, none]) (st1 := [.int (Int32.ofNat t), .ref 18, .int (s 13 t)]) (s1 := s) rfl ?_
  refine UP.ald (e := t) rfl rfl (by omega) ?_
  show UP m_X5_placeBehind 8 [some (.ref 15), some (.ref 10), some (.int (Int32.ofNat t)), some (.int p), none, none, none, none] [.int (s 18 t), .int (s 13 t)] s (Qb (F_placeBehind_a s t p))
  refine UP.stp 3 (i1 := 11) (L1 := [some (.ref 15), some (.ref 10), some (.int (Int32.ofNat t)), some (.int p), none, none, none, none]) (st1 := [.int (Int32.ofNat t), .ref 19, .int (s 18 t), .int (s 13 t)]) (s1 := s) rfl ?_
  refine UP.ald (e := t) rfl rfl (by omega) ?_
  show UP m_X5_placeBehind 12 [some (.ref 15), some (.ref 10), some (.int (Int32.ofNat t)), some (.int p), none, none, none, none] [.int (s 19 t), .int (s 18 t), .int (s 13 t)] s (Qb (F_placeBehind_a s t p))
  refine UP.stp 4 (i1 := 16) (L1 := [some (.ref 15), some (.ref 10), some (.int (Int32.ofNat t)), some (.int p), none, none, none, none]) (st1 := [.int (((s 13 t) * ((s 18 t) - (s 19 t))) / 6)]) (s1 := s) rfl ?_
  refine nm (G := fun v1 => UP m_X5_placeBehind 16 [some (.ref 15), some (.ref 10), some (.int (Int32.ofNat t)), some (.int p), none, none, none, none] [.int v1] s (Qb (F_placeBehind_a s t p))) (((s 13 t) * ((s 18 t) - (s 19 t))) / 6) (fun v1 e1 => ?_)
  refine UP.stp 4 (i1 := 20) (L1 := [some (.ref 15), some (.ref 10), some (.int (Int32.ofNat t)), some (.int p), some (.int v1), none, none, none]) (st1 := [.int (Int32.ofNat t), .ref 14]) (s1 := s) rfl ?_
  refine UP.ald (e := t) rfl rfl (by omega) ?_
  show UP m_X5_placeBehind 21 [some (.ref 15), some (.ref 10), some (.int (Int32.ofNat t)), some (.int p), some (.int v1), none, none, none] [.int (s 14 t)] s (Qb (F_placeBehind_a s t p))
  refine nm (G := fun v2 => UP m_X5_placeBehind 21 [some (.ref 15), some (.ref 10), some (.int (Int32.ofNat t)), some (.int p), some (.int v1), none, none, none] [.int v2] s (Qb (F_placeBehind_a s t p))) (s 14 t) (fun v2 e2 => ?_)
  refine UP.stp 3 (i1 := 24) (L1 := [some (.ref 15), some (.ref 10), some (.int (Int32.ofNat t)), some (.int p), some (.int v1), some (.int v2), none, none]) (st1 := [.int 2, .int v2]) (s1 := s) rfl ?_
  refine mrg (m_cmp .ne v2 2) (bif m_cmp .ne v2 1 then (0 : Int32) else (-1 : Int32)) (1 : Int32) (fun v4 : Int32 => UP m_X5_placeBehind 33 [some (.ref 15), some (.ref 10), some (.int (Int32.ofNat t)), some (.int p), some (.int v1), some (.int v2), none, none] [.int v4] s (Qb (F_placeBehind_a s t p))) (fun cc kk => ?_) (fun cc kk => ?_) (fun v4 e4 => ?_)
  · skip
    refine UP.icT rfl cc ?_
    refine UP.stp 2 (i1 := 29) (L1 := [some (.ref 15), some (.ref 10), some (.int (Int32.ofNat t)), some (.int p), some (.int v1), some (.int v2), none, none]) (st1 := [.int 1, .int v2]) (s1 := s) rfl ?_
    refine mrg (m_cmp .ne v2 1) (0 : Int32) (-1 : Int32) (fun v3 : Int32 => UP m_X5_placeBehind 33 [some (.ref 15), some (.ref 10), some (.int (Int32.ofNat t)), some (.int p), some (.int v1), some (.int v2), none, none] [.int v3] s (Qb (F_placeBehind_a s t p))) (fun cc kk => ?_) (fun cc kk => ?_) (fun v3 e3 => ?_)
    · skip
      refine UP.icT rfl cc ?_
      refine UP.stp 1 (i1 := 33) (L1 := [some (.ref 15), some (.ref 10), some (.int (Int32.ofNat t)), some (.int p), some (.int v1), some (.int v2), none, none]) (st1 := [.int 0]) (s1 := s) rfl ?_
      exact kk
    · skip
      refine UP.icF rfl cc ?_
      refine UP.stp 2 (i1 := 33) (L1 := [some (.ref 15), some (.ref 10), some (.int (Int32.ofNat t)), some (.int p), some (.int v1), some (.int v2), none, none]) (st1 := [.int (-1)]) (s1 := s) rfl ?_
      exact kk
    subst e3
    exact kk
  · skip
    refine UP.icF rfl cc ?_
    refine UP.stp 2 (i1 := 33) (L1 := [some (.ref 15), some (.ref 10), some (.int (Int32.ofNat t)), some (.int p), some (.int v1), some (.int v2), none, none]) (st1 := [.int 1]) (s1 := s) rfl ?_
    exact kk
  refine UP.stp 9 (i1 := 42) (L1 := [some (.ref 15), some (.ref 10), some (.int (Int32.ofNat t)), some (.int p), some (.int v1), some (.int v2), some (.int v4), none]) (st1 := [.int (Int32.ofNat t), .ref 51, .int ((p + v1) + v4)]) (s1 := s) rfl ?_
  refine UP.ald (e := t) rfl rfl (by omega) ?_
  show UP m_X5_placeBehind 43 [some (.ref 15), some (.ref 10), some (.int (Int32.ofNat t)), some (.int p), some (.int v1), some (.int v2), some (.int v4), none] [.int (s 51 t), .int ((p + v1) + v4)] s (Qb (F_placeBehind_a s t p))
  refine UP.stp 1 (i1 := 44) (L1 := [some (.ref 15), some (.ref 10), some (.int (Int32.ofNat t)), some (.int p), some (.int v1), some (.int v2), some (.int v4), none]) (st1 := [.int (((p + v1) + v4) + (s 51 t))]) (s1 := s) rfl ?_
  refine nm (G := fun v5 => UP m_X5_placeBehind 44 [some (.ref 15), some (.ref 10), some (.int (Int32.ofNat t)), some (.int p), some (.int v1), some (.int v2), some (.int v4), none] [.int v5] s (Qb (F_placeBehind_a s t p))) (((p + v1) + v4) + (s 51 t)) (fun v5 e5 => ?_)
  refine UP.stp 2 (i1 := 46) (L1 := [some (.ref 15), some (.ref 10), some (.int (Int32.ofNat t)), some (.int p), some (.int v1), some (.int v2), some (.int v4), some (.int v5)]) (st1 := [.int v5]) (s1 := s) rfl ?_
  refine UP.spl (m_cmp .le v5 0) (let v8 := bif m_cmp .gt v5 0 then (20 : Int32) else (0 : Int32); (v8, (uset s 20 t 1))) (bif m_cmp .ge v5 20 then (let v11 := bif m_cmp .gt v5 0 then (20 : Int32) else (0 : Int32); (v11, (uset s 20 t 1))) else ((v5, s))) (by subst e5 e4 e2 e1; first | (dsimp only [F_placeBehind_a]; done) | (dsimp only; done) | rfl) (fun cc => ?_) (fun cc => ?_)
  · skip
    refine UP.ifT rfl cc ?_
    refine UP.stp 4 (i1 := 56) (L1 := [some (.ref 15), some (.ref 10), some (.int (Int32.ofNat t)), some (.int p), some (.int v1), some (.int v2), some (.int v4), some (.int v5)]) (st1 := [.int 1, .int (Int32.ofNat t), .ref 20]) (s1 := s) rfl ?_
    refine UP.ast (e := t) rfl rfl (by omega) ?_
    show UP m_X5_placeBehind 57 [some (.ref 15), some (.ref 10), some (.int (Int32.ofNat t)), some (.int p), some (.int v1), some (.int v2), some (.int v4), some (.int v5)] [] (uset s 20 t 1) (Qb (let v8 := bif m_cmp .gt v5 0 then (20 : Int32) else (0 : Int32); (v8, (uset s 20 t 1))))
    refine UP.stp 1 (i1 := 58) (L1 := [some (.ref 15), some (.ref 10), some (.int (Int32.ofNat t)), some (.int p), some (.int v1), some (.int v2), some (.int v4), some (.int v5)]) (st1 := [.int v5]) (s1 := (uset s 20 t 1)) rfl ?_
    refine mrg (m_cmp .gt v5 0) (20 : Int32) (0 : Int32) (fun v8 : Int32 => UP m_X5_placeBehind 62 [some (.ref 15), some (.ref 10), some (.int (Int32.ofNat t)), some (.int p), some (.int v1), some (.int v2), some (.int v4), some (.int v5)] [.int v8] (uset s 20 t 1) (Qb (let v8 := bif m_cmp .gt v5 0 then (20 : Int32) else (0 : Int32); (v8, (uset s 20 t 1))))) (fun cc kk => ?_) (fun cc kk => ?_) (fun v8 e8 => ?_)
    · skip
      refine UP.ifT rfl cc ?_
      refine UP.stp 1 (i1 := 62) (L1 := [some (.ref 15), some (.ref 10), some (.int (Int32.ofNat t)), some (.int p), some (.int v1), some (.int v2), some (.int v4), some (.int v5)]) (st1 := [.int 20]) (s1 := (uset s 20 t 1)) rfl ?_
      exact kk
    · skip
      refine UP.ifF rfl cc ?_
      refine UP.stp 2 (i1 := 62) (L1 := [some (.ref 15), some (.ref 10), some (.int (Int32.ofNat t)), some (.int p), some (.int v1), some (.int v2), some (.int v4), some (.int v5)]) (st1 := [.int 0]) (s1 := (uset s 20 t 1)) rfl ?_
      exact kk
    exact UP.ret (r := some (.int v8)) rfl ⟨by subst e8 e5 e4 e2 e1; first | (dsimp only [F_placeBehind_a]; done) | (dsimp only; done) | rfl, by subst e8 e5 e4 e2 e1; first | (dsimp only [F_placeBehind_a]; done) | (dsimp only; done) | rfl⟩
  · skip
    refine UP.ifF rfl cc ?_
    refine UP.stp 2 (i1 := 49) (L1 := [some (.ref 15), some (.ref 10), some (.int (Int32.ofNat t)), some (.int p), some (.int v1), some (.int v2), some (.int v4), some (.int v5)]) (st1 := [.int 20, .int v5]) (s1 := s) rfl ?_
    refine UP.spl (m_cmp .ge v5 20) (let v11 := bif m_cmp .gt v5 0 then (20 : Int32) else (0 : Int32); (v11, (uset s 20 t 1))) ((v5, s)) (by subst e5 e4 e2 e1; first | (dsimp only [F_placeBehind_a]; done) | (dsimp only; done) | rfl) (fun cc => ?_) (fun cc => ?_)
    · skip
      refine UP.icT rfl cc ?_
      refine UP.stp 4 (i1 := 56) (L1 := [some (.ref 15), some (.ref 10), some (.int (Int32.ofNat t)), some (.int p), some (.int v1), some (.int v2), some (.int v4), some (.int v5)]) (st1 := [.int 1, .int (Int32.ofNat t), .ref 20]) (s1 := s) rfl ?_
      refine UP.ast (e := t) rfl rfl (by omega) ?_
      show UP m_X5_placeBehind 57 [some (.ref 15), some (.ref 10), some (.int (Int32.ofNat t)), some (.int p), some (.int v1), some (.int v2), some (.int v4), some (.int v5)] [] (uset s 20 t 1) (Qb (let v11 := bif m_cmp .gt v5 0 then (20 : Int32) else (0 : Int32); (v11, (uset s 20 t 1))))
      refine UP.stp 1 (i1 := 58) (L1 := [some (.ref 15), some (.ref 10), some (.int (Int32.ofNat t)), some (.int p), some (.int v1), some (.int v2), some (.int v4), some (.int v5)]) (st1 := [.int v5]) (s1 := (uset s 20 t 1)) rfl ?_
      refine mrg (m_cmp .gt v5 0) (20 : Int32) (0 : Int32) (fun v11 : Int32 => UP m_X5_placeBehind 62 [some (.ref 15), some (.ref 10), some (.int (Int32.ofNat t)), some (.int p), some (.int v1), some (.int v2), some (.int v4), some (.int v5)] [.int v11] (uset s 20 t 1) (Qb (let v11 := bif m_cmp .gt v5 0 then (20 : Int32) else (0 : Int32); (v11, (uset s 20 t 1))))) (fun cc kk => ?_) (fun cc kk => ?_) (fun v11 e11 => ?_)
      · skip
        refine UP.ifT rfl cc ?_
        refine UP.stp 1 (i1 := 62) (L1 := [some (.ref 15), some (.ref 10), some (.int (Int32.ofNat t)), some (.int p), some (.int v1), some (.int v2), some (.int v4), some (.int v5)]) (st1 := [.int 20]) (s1 := (uset s 20 t 1)) rfl ?_
        exact kk
      · skip
        refine UP.ifF rfl cc ?_
        refine UP.stp 2 (i1 := 62) (L1 := [some (.ref 15), some (.ref 10), some (.int (Int32.ofNat t)), some (.int p), some (.int v1), some (.int v2), some (.int v4), some (.int v5)]) (st1 := [.int 0]) (s1 := (uset s 20 t 1)) rfl ?_
        exact kk
      exact UP.ret (r := some (.int v11)) rfl ⟨by subst e11 e5 e4 e2 e1; first | (dsimp only [F_placeBehind_a]; done) | (dsimp only; done) | rfl, by subst e11 e5 e4 e2 e1; first | (dsimp only [F_placeBehind_a]; done) | (dsimp only; done) | rfl⟩
    · skip
      refine UP.icF rfl cc ?_
      refine UP.stp 1 (i1 := 51) (L1 := [some (.ref 15), some (.ref 10), some (.int (Int32.ofNat t)), some (.int p), some (.int v1), some (.int v2), some (.int v4), some (.int v5)]) (st1 := [.int v5]) (s1 := s) rfl ?_
      exact UP.ret (r := some (.int v5)) rfl ⟨by subst e5 e4 e2 e1; first | (dsimp only [F_placeBehind_a]; done) | (dsimp only; done) | rfl, by subst e5 e4 e2 e1; first | (dsimp only [F_placeBehind_a]; done) | (dsimp only; done) | rfl⟩
def W_metresIn_a : List (Nat × Nat × Option Nat) := []
def F_metresIn_a (s : SG) (t : Nat) : Int32 := let v1 := ((s 18 t) + (s 19 t)) / 2; let v2 := (((s 13 t) * v1) + (s 10 5)) + (s 52 t); let v3 := bif m_cmp .ne (s 20 t) 1 then v2 else v2 / 2; v3
theorem ux_metresIn_a (s : SG) (t : Nat) (ht : t < 24) : UP m_X5_metresIn 0 (m_ent 5 [.ref 15, .ref 10, .int (Int32.ofNat t)]) [] s (Qi s (F_metresIn_a s t)) := by
  refine UP.stp 3 (i1 := 3) (L1 := [some (.ref 15), some (.ref 10), some (.int (Int32.ofNat t)), none, none]) (st1 := [.int (Int32.ofNat t), .ref 18]) (s1 := s) rfl ?_
  refine UP.ald (e := t) rfl rfl (by omega) ?_
  show UP m_X5_metresIn 4 [some (.ref 15), some (.ref 10), some (.int (Int32.ofNat t)), none, none] [.int (s 18 t)] s (Qi s (F_metresIn_a s t))
  refine UP.stp 3 (i1 := 7) (L1 := [some (.ref 15), some (.ref 10), some (.int (Int32.ofNat t)), none, none]) (st1 := [.int (Int32.ofNat t), .ref 19, .int (s 18 t)]) (s1 := s) rfl ?_
  refine UP.ald (e := t) rfl rfl (by omega) ?_
  show UP m_X5_metresIn 8 [some (.ref 15), some (.ref 10), some (.int (Int32.ofNat t)), none, none] [.int (s 19 t), .int (s 18 t)] s (Qi s (F_metresIn_a s t))
  refine UP.stp 3 (i1 := 11) (L1 := [some (.ref 15), some (.ref 10), some (.int (Int32.ofNat t)), none, none]) (st1 := [.int (((s 18 t) + (s 19 t)) / 2)]) (s1 := s) rfl ?_
  refine nm (G := fun v1 => UP m_X5_metresIn 11 [some (.ref 15), some (.ref 10), some (.int (Int32.ofNat t)), none, none] [.int v1] s (Qi s (F_metresIn_a s t))) (((s 18 t) + (s 19 t)) / 2) (fun v1 e1 => ?_)
  refine UP.stp 4 (i1 := 15) (L1 := [some (.ref 15), some (.ref 10), some (.int (Int32.ofNat t)), some (.int v1), none]) (st1 := [.int (Int32.ofNat t), .ref 13]) (s1 := s) rfl ?_
  refine UP.ald (e := t) rfl rfl (by omega) ?_
  show UP m_X5_metresIn 16 [some (.ref 15), some (.ref 10), some (.int (Int32.ofNat t)), some (.int v1), none] [.int (s 13 t)] s (Qi s (F_metresIn_a s t))
  refine UP.stp 8 (i1 := 24) (L1 := [some (.ref 15), some (.ref 10), some (.int (Int32.ofNat t)), some (.int v1), none]) (st1 := [.int (Int32.ofNat t), .ref 52, .int (((s 13 t) * v1) + (s 10 5))]) (s1 := s) rfl ?_
  refine UP.ald (e := t) rfl rfl (by omega) ?_
  show UP m_X5_metresIn 25 [some (.ref 15), some (.ref 10), some (.int (Int32.ofNat t)), some (.int v1), none] [.int (s 52 t), .int (((s 13 t) * v1) + (s 10 5))] s (Qi s (F_metresIn_a s t))
  refine UP.stp 1 (i1 := 26) (L1 := [some (.ref 15), some (.ref 10), some (.int (Int32.ofNat t)), some (.int v1), none]) (st1 := [.int ((((s 13 t) * v1) + (s 10 5)) + (s 52 t))]) (s1 := s) rfl ?_
  refine nm (G := fun v2 => UP m_X5_metresIn 26 [some (.ref 15), some (.ref 10), some (.int (Int32.ofNat t)), some (.int v1), none] [.int v2] s (Qi s (F_metresIn_a s t))) ((((s 13 t) * v1) + (s 10 5)) + (s 52 t)) (fun v2 e2 => ?_)
  refine UP.stp 4 (i1 := 30) (L1 := [some (.ref 15), some (.ref 10), some (.int (Int32.ofNat t)), some (.int v1), some (.int v2)]) (st1 := [.int (Int32.ofNat t), .ref 20]) (s1 := s) rfl ?_
  refine UP.ald (e := t) rfl rfl (by omega) ?_
  show UP m_X5_metresIn 31 [some (.ref 15), some (.ref 10), some (.int (Int32.ofNat t)), some (.int v1), some (.int v2)] [.int (s 20 t)] s (Qi s (F_metresIn_a s t))
  refine UP.stp 1 (i1 := 32) (L1 := [some (.ref 15), some (.ref 10), some (.int (Int32.ofNat t)), some (.int v1), some (.int v2)]) (st1 := [.int 1, .int (s 20 t)]) (s1 := s) rfl ?_
  refine mrg (m_cmp .ne (s 20 t) 1) v2 (v2 / 2) (fun v3 : Int32 => UP m_X5_metresIn 38 [some (.ref 15), some (.ref 10), some (.int (Int32.ofNat t)), some (.int v1), some (.int v2)] [.int v3] s (Qi s (F_metresIn_a s t))) (fun cc kk => ?_) (fun cc kk => ?_) (fun v3 e3 => ?_)
  · skip
    refine UP.icT rfl cc ?_
    refine UP.stp 1 (i1 := 38) (L1 := [some (.ref 15), some (.ref 10), some (.int (Int32.ofNat t)), some (.int v1), some (.int v2)]) (st1 := [.int v2]) (s1 := s) rfl ?_
    exact kk
  · skip
    refine UP.icF rfl cc ?_
    refine UP.stp 4 (i1 := 38) (L1 := [some (.ref 15), some (.ref 10), some (.int (Int32.ofNat t)), some (.int v1), some (.int v2)]) (st1 := [.int (v2 / 2)]) (s1 := s) rfl ?_
    exact kk
  exact UP.ret (r := some (.int v3)) rfl ⟨by subst e3 e2 e1; first | (dsimp only [F_metresIn_a]; done) | (dsimp only; done) | rfl, by subst e3 e2 e1; first | (dsimp only [F_metresIn_a]; done) | (dsimp only; done) | rfl⟩
def W_row_a : List (Nat × Nat × Option Nat) := [(16, 20, none), (22, 45, none), (46, 52, none), (15, 15, some 8)]
def B_row_a_16  (i3 : Nat) (a3 : SG × Int32 × Int32) : SG × Int32 × Int32 := let z4 := F_pullAll_a (uset a3.1 20 i3 0) i3; let w9 := bif m_cmp .ne (z4 15 8) (-1) then (a3.2.1, a3.2.2, z4) else ((a3.2.1 + (F_metresIn_a (F_placeBehind_a z4 i3 a3.2.2).2 i3)), (F_placeBehind_a z4 i3 a3.2.2).1, (bif m_cmp .lt (a3.2.1 + (F_metresIn_a (F_placeBehind_a z4 i3 a3.2.2).2 i3)) ((F_placeBehind_a z4 i3 a3.2.2).2 10 6) then (F_placeBehind_a z4 i3 a3.2.2).2 else (uset (F_placeBehind_a z4 i3 a3.2.2).2 15 8 (Int32.ofNat i3)))); ((uset (uset w9.2.2 16 i3 w9.1) 17 i3 w9.2.1), w9.1, w9.2.1)
theorem fr_B_row_a_16  (i3 : Nat) (a3 : SG × Int32 × Int32)  (hi3 : i3 < 24) : Fr W_row_a a3.1 ((B_row_a_16) i3 a3).1 := by dsimp only [B_row_a_16]; exact (let z4 : SG := F_pullAll_a (uset a3.1 20 i3 0) i3; (let w9 : Int32 × Int32 × SG := bif m_cmp .ne (z4 15 8) (-1) then (a3.2.1, a3.2.2, z4) else ((a3.2.1 + (F_metresIn_a (F_placeBehind_a z4 i3 a3.2.2).2 i3)), (F_placeBehind_a z4 i3 a3.2.2).1, (bif m_cmp .lt (a3.2.1 + (F_metresIn_a (F_placeBehind_a z4 i3 a3.2.2).2 i3)) ((F_placeBehind_a z4 i3 a3.2.2).2 10 6) then (F_placeBehind_a z4 i3 a3.2.2).2 else (uset (F_placeBehind_a z4 i3 a3.2.2).2 15 8 (Int32.ofNat i3)))); (Fr.uset (s1 := (uset w9.2.2 16 i3 w9.1)) (a := 17) (j := i3) (x := w9.2.1) (by rfl) (Fr.uset (s1 := w9.2.2) (a := 16) (j := i3) (x := w9.1) (by rfl) (Fr.bifp (b := m_cmp .ne (z4 15 8) (-1)) (x := (a3.2.1, a3.2.2, z4)) (y := ((a3.2.1 + (F_metresIn_a (F_placeBehind_a z4 i3 a3.2.2).2 i3)), (F_placeBehind_a z4 i3 a3.2.2).1, (bif m_cmp .lt (a3.2.1 + (F_metresIn_a (F_placeBehind_a z4 i3 a3.2.2).2 i3)) ((F_placeBehind_a z4 i3 a3.2.2).2 10 6) then (F_placeBehind_a z4 i3 a3.2.2).2 else (uset (F_placeBehind_a z4 i3 a3.2.2).2 15 8 (Int32.ofNat i3))))) (fun x : Int32 × Int32 × SG => x.2.2) (by (try dsimp only); exact (Fr.tr (s1 := (uset a3.1 20 i3 0)) (Fr.uset (s1 := a3.1) (a := 20) (j := i3) (x := 0) (by rfl) (Fr.rf _ _)) (Fr.wk (W2 := W_row_a) (fr_pullAll_a (uset a3.1 20 i3 0) i3 hi3) (by rfl)))) (by (try dsimp only); exact (Fr.bif (b := m_cmp .lt (a3.2.1 + (F_metresIn_a (F_placeBehind_a z4 i3 a3.2.2).2 i3)) ((F_placeBehind_a z4 i3 a3.2.2).2 10 6)) (s1 := (F_placeBehind_a z4 i3 a3.2.2).2) (s2 := (uset (F_placeBehind_a z4 i3 a3.2.2).2 15 8 (Int32.ofNat i3))) (Fr.tr (s1 := z4) (Fr.tr (s1 := (uset a3.1 20 i3 0)) (Fr.uset (s1 := a3.1) (a := 20) (j := i3) (x := 0) (by rfl) (Fr.rf _ _)) (Fr.wk (W2 := W_row_a) (fr_pullAll_a (uset a3.1 20 i3 0) i3 hi3) (by rfl))) (Fr.wk (W2 := W_row_a) (fr_placeBehind_a z4 i3 a3.2.2) (by rfl))) (Fr.uset (s1 := (F_placeBehind_a z4 i3 a3.2.2).2) (a := 15) (j := 8) (x := Int32.ofNat i3) (by rfl) (Fr.tr (s1 := z4) (Fr.tr (s1 := (uset a3.1 20 i3 0)) (Fr.uset (s1 := a3.1) (a := 20) (j := i3) (x := 0) (by rfl) (Fr.rf _ _)) (Fr.wk (W2 := W_row_a) (fr_pullAll_a (uset a3.1 20 i3 0) i3 hi3) (by rfl))) (Fr.wk (W2 := W_row_a) (fr_placeBehind_a z4 i3 a3.2.2) (by rfl)))))))))))
def F_row_a (s : SG) (mask : Int32) : SG := let z1 := F_takeEvents_a s mask; let z2 := F_takeRowers_a z1 ; let z3 := itr (B_row_a_16) 0 24 ((uset z2 15 8 (-1)), 0, 10); z3.1
theorem fr_row_a (s : SG) (mask : Int32)  : Fr W_row_a s (F_row_a s mask) := by dsimp only [F_row_a]; exact (let z1 : SG := F_takeEvents_a s mask; (let z2 : SG := F_takeRowers_a z1 ; (frItrB (W := W_row_a) (m := (fun x : SG × Int32 × Int32 => x.1)) (f := (B_row_a_16)) 24 (fun ii aa hh => Fr.wk (W2 := W_row_a) (fr_B_row_a_16  ii aa  hh) (by rfl)) 24 0 ((uset z2 15 8 (-1)), 0, 10) (by omega) (Fr.uset (s1 := z2) (a := 15) (j := 8) (x := (-1)) (by rfl) (Fr.tr (s1 := z1) (Fr.tr (s1 := s) (Fr.rf _ _) (Fr.wk (W2 := W_row_a) (fr_takeEvents_a s mask) (by rfl))) (Fr.wk (W2 := W_row_a) (fr_takeRowers_a z1 ) (by rfl)))))))
theorem ux_row_a (s : SG) (mask : Int32)  : UP m_X5_row 0 (m_ent 7 [.ref 15, .ref 10, .ref 2, .int mask]) [] s (Qv (F_row_a s mask)) := by
  refine UP.stp 3 (i1 := 3) (L1 := [some (.ref 15), some (.ref 10), some (.ref 2), some (.int mask), none, none, none]) (st1 := [.int mask, .ref 2, .ref 15]) (s1 := s) rfl ?_
  refine UP.cV (M1 := m_X5_takeEvents) (as := [.ref 15, .ref 2, .int mask]) (rest := []) (T := F_takeEvents_a s mask) rfl rfl (ux_takeEvents_a s mask) (fun z1 e1 => ?_)
  refine UP.stp 2 (i1 := 6) (L1 := [some (.ref 15), some (.ref 10), some (.ref 2), some (.int mask), none, none, none]) (st1 := [.ref 10, .ref 15]) (s1 := z1) rfl ?_
  refine UP.cV (M1 := m_X5_takeRowers) (as := [.ref 15, .ref 10]) (rest := []) (T := F_takeRowers_a z1 ) rfl rfl (ux_takeRowers_a z1) (fun z2 e2 => ?_)
  refine UP.stp 9 (i1 := 16) (L1 := [some (.ref 15), some (.ref 10), some (.ref 2), some (.int mask), some (.int 0), some (.int 10), some (.int 0)]) (st1 := []) (s1 := (uset z2 15 8 (-1))) rfl ?_
  refine lp (fun (i3 : Nat) (a3 : SG × Int32 × Int32) => ∀ (u3_2 : Option Value) (u3_3 : Option Value), UP m_X5_row 16 [some (.ref 15), some (.ref 10), u3_2, u3_3, some (.int a3.2.1), some (.int a3.2.2), some (.int (Int32.ofNat i3))] [] a3.1 (Qv (F_row_a s mask))) (fun (_ : Nat) (a3 : SG × Int32 × Int32) => Fr W_row_a (uset z2 15 8 (-1)) a3.1) (B_row_a_16) (24) (fun i3 a3 hi3 g3 => g3.tr (fr_B_row_a_16  i3 a3 hi3)) (fun i3 a3 hi3 g3 kk => ?_) 24 (0) ((uset z2 15 8 (-1)), 0, 10) (by  omega) (Fr.rf _ _) (fun z3 e3 g3 => ?_) (some (.ref 2)) (some (.int mask))
  · skip
    intro u3_2 u3_3
    refine UP.stp 2 (i1 := 18) (L1 := [some (.ref 15), some (.ref 10), u3_2, u3_3, some (.int a3.2.1), some (.int a3.2.2), some (.int (Int32.ofNat i3))]) (st1 := [.int 24, .int (Int32.ofNat i3)]) (s1 := a3.1) rfl ?_
    refine UP.icF rfl (ge_F (show i3 < (24 : Int32).toNatClampNeg from hi3)) ?_
    refine UP.stp 4 (i1 := 23) (L1 := [some (.ref 15), some (.ref 10), u3_2, u3_3, some (.int a3.2.1), some (.int a3.2.2), some (.int (Int32.ofNat i3))]) (st1 := [.int 0, .int (Int32.ofNat i3), .ref 20]) (s1 := a3.1) rfl ?_
    refine UP.ast (e := i3) rfl rfl (by omega) ?_
    show UP m_X5_row 24 [some (.ref 15), some (.ref 10), u3_2, u3_3, some (.int a3.2.1), some (.int a3.2.2), some (.int (Int32.ofNat i3))] [] (uset a3.1 20 i3 0) (Qv (F_row_a s mask))
    refine UP.stp 3 (i1 := 27) (L1 := [some (.ref 15), some (.ref 10), u3_2, u3_3, some (.int a3.2.1), some (.int a3.2.2), some (.int (Int32.ofNat i3))]) (st1 := [.int (Int32.ofNat i3), .ref 10, .ref 15]) (s1 := (uset a3.1 20 i3 0)) rfl ?_
    refine UP.cV (M1 := m_X5_pullAll) (as := [.ref 15, .ref 10, .int (Int32.ofNat i3)]) (rest := []) (T := F_pullAll_a (uset a3.1 20 i3 0) i3) rfl rfl (ux_pullAll_a (uset a3.1 20 i3 0) i3 hi3) (fun z4 e4 => ?_)
    refine UP.stp 3 (i1 := 31) (L1 := [some (.ref 15), some (.ref 10), u3_2, u3_3, some (.int a3.2.1), some (.int a3.2.2), some (.int (Int32.ofNat i3))]) (st1 := [.int (-1), .int (z4 15 8)]) (s1 := z4) rfl ?_
    refine mrg (m_cmp .ne (z4 15 8) (-1)) (a3.2.1, a3.2.2, z4) ((a3.2.1 + (F_metresIn_a (F_placeBehind_a z4 i3 a3.2.2).2 i3)), (F_placeBehind_a z4 i3 a3.2.2).1, (bif m_cmp .lt (a3.2.1 + (F_metresIn_a (F_placeBehind_a z4 i3 a3.2.2).2 i3)) ((F_placeBehind_a z4 i3 a3.2.2).2 10 6) then (F_placeBehind_a z4 i3 a3.2.2).2 else (uset (F_placeBehind_a z4 i3 a3.2.2).2 15 8 (Int32.ofNat i3)))) (fun w9 : Int32 × Int32 × SG => UP m_X5_row 52 [some (.ref 15), some (.ref 10), u3_2, u3_3, some (.int w9.1), some (.int w9.2.1), some (.int (Int32.ofNat i3))] [] w9.2.2 (Qv (F_row_a s mask))) (fun cc kk => ?_) (fun cc kk => ?_) (fun w9 e9 => ?_)
    · skip
      refine UP.icT rfl cc ?_
      exact kk
    · skip
      refine UP.icF rfl cc ?_
      refine UP.stp 4 (i1 := 36) (L1 := [some (.ref 15), some (.ref 10), u3_2, u3_3, some (.int a3.2.1), some (.int a3.2.2), some (.int (Int32.ofNat i3))]) (st1 := [.int a3.2.2, .int (Int32.ofNat i3), .ref 10, .ref 15]) (s1 := z4) rfl ?_
      refine UP.cB (M1 := m_X5_placeBehind) (as := [.ref 15, .ref 10, .int (Int32.ofNat i3), .int a3.2.2]) (rest := []) (T := F_placeBehind_a z4 i3 a3.2.2) rfl rfl (ux_placeBehind_a z4 i3 a3.2.2 hi3) (fun z5 e5 => ?_)
      refine UP.stp 5 (i1 := 42) (L1 := [some (.ref 15), some (.ref 10), u3_2, u3_3, some (.int a3.2.1), some (.int z5.1), some (.int (Int32.ofNat i3))]) (st1 := [.int (Int32.ofNat i3), .ref 10, .ref 15, .int a3.2.1]) (s1 := z5.2) rfl ?_
      refine UP.cI (M1 := m_X5_metresIn) (as := [.ref 15, .ref 10, .int (Int32.ofNat i3)]) (rest := [.int a3.2.1]) (T := F_metresIn_a z5.2 i3) rfl rfl (ux_metresIn_a z5.2 i3 hi3) ?_
      refine UP.stp 1 (i1 := 44) (L1 := [some (.ref 15), some (.ref 10), u3_2, u3_3, some (.int a3.2.1), some (.int z5.1), some (.int (Int32.ofNat i3))]) (st1 := [.int (a3.2.1 + (F_metresIn_a z5.2 i3))]) (s1 := z5.2) rfl ?_
      refine nm (G := fun v7 => UP m_X5_row 44 [some (.ref 15), some (.ref 10), u3_2, u3_3, some (.int a3.2.1), some (.int z5.1), some (.int (Int32.ofNat i3))] [.int v7] z5.2 (Qv (F_row_a s mask))) (a3.2.1 + (F_metresIn_a z5.2 i3)) (fun v7 e7 => ?_)
      refine UP.stp 4 (i1 := 48) (L1 := [some (.ref 15), some (.ref 10), u3_2, u3_3, some (.int v7), some (.int z5.1), some (.int (Int32.ofNat i3))]) (st1 := [.int (z5.2 10 6), .int v7]) (s1 := z5.2) rfl ?_
      refine mrg (m_cmp .lt v7 (z5.2 10 6)) z5.2 (uset z5.2 15 8 (Int32.ofNat i3)) (fun v8 : SG => UP m_X5_row 52 [some (.ref 15), some (.ref 10), u3_2, u3_3, some (.int v7), some (.int z5.1), some (.int (Int32.ofNat i3))] [] v8 (Qv (F_row_a s mask))) (fun cc kk => ?_) (fun cc kk => ?_) (fun v8 e8 => ?_)
      · skip
        refine UP.icT rfl cc ?_
        exact kk
      · skip
        refine UP.icF rfl cc ?_
        refine UP.stp 3 (i1 := 52) (L1 := [some (.ref 15), some (.ref 10), u3_2, u3_3, some (.int v7), some (.int z5.1), some (.int (Int32.ofNat i3))]) (st1 := []) (s1 := (uset z5.2 15 8 (Int32.ofNat i3))) rfl ?_
        exact kk
      subst e8 e7 e5
      exact kk
    refine UP.stp 4 (i1 := 56) (L1 := [some (.ref 15), some (.ref 10), u3_2, u3_3, some (.int w9.1), some (.int w9.2.1), some (.int (Int32.ofNat i3))]) (st1 := [.int w9.1, .int (Int32.ofNat i3), .ref 16]) (s1 := w9.2.2) rfl ?_
    refine UP.ast (e := i3) rfl rfl (by omega) ?_
    show UP m_X5_row 57 [some (.ref 15), some (.ref 10), u3_2, u3_3, some (.int w9.1), some (.int w9.2.1), some (.int (Int32.ofNat i3))] [] (uset w9.2.2 16 i3 w9.1) (Qv (F_row_a s mask))
    refine UP.stp 4 (i1 := 61) (L1 := [some (.ref 15), some (.ref 10), u3_2, u3_3, some (.int w9.1), some (.int w9.2.1), some (.int (Int32.ofNat i3))]) (st1 := [.int w9.2.1, .int (Int32.ofNat i3), .ref 17]) (s1 := (uset w9.2.2 16 i3 w9.1)) rfl ?_
    refine UP.ast (e := i3) rfl rfl (by omega) ?_
    show UP m_X5_row 62 [some (.ref 15), some (.ref 10), u3_2, u3_3, some (.int w9.1), some (.int w9.2.1), some (.int (Int32.ofNat i3))] [] (uset (uset w9.2.2 16 i3 w9.1) 17 i3 w9.2.1) (Qv (F_row_a s mask))
    refine UP.stp 2 (i1 := 16) (L1 := [some (.ref 15), some (.ref 10), u3_2, u3_3, some (.int w9.1), some (.int w9.2.1), some (.int ((Int32.ofNat i3) + 1))]) (st1 := []) (s1 := (uset (uset w9.2.2 16 i3 w9.1) 17 i3 w9.2.1)) rfl ?_
    subst e9 e4
    rw [ofn_s]
    try dsimp only [B_row_a_16] at kk
    exact kk _ _
  intro u3_2 u3_3
  refine UP.stp 2 (i1 := 18) (L1 := [some (.ref 15), some (.ref 10), u3_2, u3_3, some (.int z3.2.1), some (.int z3.2.2), some (.int (Int32.ofNat 24))]) (st1 := [.int 24, .int (Int32.ofNat 24)]) (s1 := z3.1) rfl ?_
  refine UP.icT rfl (ge_T (24 : Int32)) ?_
  exact UP.ret (r := none) rfl ⟨by subst e3 e2 e1; first | (dsimp only [F_row_a]; done) | (dsimp only; done) | rfl, by subst e3 e2 e1; first | (dsimp only [F_row_a]; done) | (dsimp only; done) | rfl⟩
def W_takeEvents_b : List (Nat × Nat × Option Nat) := [(93, 95, none)]
def B_takeEvents_b_14 (mask : Int32) (i4 : Nat) (a4 : SG) : SG := let v13 := bif m_cmp .ne ((mask >>> ((Int32.ofNat i4) &&& 31)) &&& (1 : Int32)) 0 then (bif m_cmp .ne (a4 3 i4) 0 then (bif m_cmp .ne (a4 3 i4) 1 then (uset a4 95 (a4 4 i4).toNatClampNeg ((a4 95 (a4 4 i4).toNatClampNeg) + 3)) else (uset a4 94 (a4 4 i4).toNatClampNeg ((a4 94 (a4 4 i4).toNatClampNeg) + (bif m_cmp .ne ((a4 5 i4) - (a4 5 i4) / 2 * 2) 1 then (-2 : Int32) else (2 : Int32))))) else (uset a4 93 (a4 4 i4).toNatClampNeg ((a4 93 (a4 4 i4).toNatClampNeg) ||| (1 <<< ((a4 5 i4) &&& 31))))) else a4; v13
theorem fr_B_takeEvents_b_14 (mask : Int32) (i4 : Nat) (a4 : SG)   : Fr W_takeEvents_b a4 ((B_takeEvents_b_14 mask) i4 a4) := by dsimp only [B_takeEvents_b_14]; exact (Fr.bif (b := m_cmp .ne ((mask >>> ((Int32.ofNat i4) &&& 31)) &&& (1 : Int32)) 0) (s1 := (bif m_cmp .ne (a4 3 i4) 0 then (bif m_cmp .ne (a4 3 i4) 1 then (uset a4 95 (a4 4 i4).toNatClampNeg ((a4 95 (a4 4 i4).toNatClampNeg) + 3)) else (uset a4 94 (a4 4 i4).toNatClampNeg ((a4 94 (a4 4 i4).toNatClampNeg) + (bif m_cmp .ne ((a4 5 i4) - (a4 5 i4) / 2 * 2) 1 then (-2 : Int32) else (2 : Int32))))) else (uset a4 93 (a4 4 i4).toNatClampNeg ((a4 93 (a4 4 i4).toNatClampNeg) ||| (1 <<< ((a4 5 i4) &&& 31)))))) (s2 := a4) (Fr.bif (b := m_cmp .ne (a4 3 i4) 0) (s1 := (bif m_cmp .ne (a4 3 i4) 1 then (uset a4 95 (a4 4 i4).toNatClampNeg ((a4 95 (a4 4 i4).toNatClampNeg) + 3)) else (uset a4 94 (a4 4 i4).toNatClampNeg ((a4 94 (a4 4 i4).toNatClampNeg) + (bif m_cmp .ne ((a4 5 i4) - (a4 5 i4) / 2 * 2) 1 then (-2 : Int32) else (2 : Int32)))))) (s2 := (uset a4 93 (a4 4 i4).toNatClampNeg ((a4 93 (a4 4 i4).toNatClampNeg) ||| (1 <<< ((a4 5 i4) &&& 31))))) (Fr.bif (b := m_cmp .ne (a4 3 i4) 1) (s1 := (uset a4 95 (a4 4 i4).toNatClampNeg ((a4 95 (a4 4 i4).toNatClampNeg) + 3))) (s2 := (uset a4 94 (a4 4 i4).toNatClampNeg ((a4 94 (a4 4 i4).toNatClampNeg) + (bif m_cmp .ne ((a4 5 i4) - (a4 5 i4) / 2 * 2) 1 then (-2 : Int32) else (2 : Int32))))) (Fr.uset (s1 := a4) (a := 95) (j := (a4 4 i4).toNatClampNeg) (x := ((a4 95 (a4 4 i4).toNatClampNeg) + 3)) (by rfl) (Fr.rf _ _)) (Fr.uset (s1 := a4) (a := 94) (j := (a4 4 i4).toNatClampNeg) (x := ((a4 94 (a4 4 i4).toNatClampNeg) + (bif m_cmp .ne ((a4 5 i4) - (a4 5 i4) / 2 * 2) 1 then (-2 : Int32) else (2 : Int32)))) (by rfl) (Fr.rf _ _))) (Fr.uset (s1 := a4) (a := 93) (j := (a4 4 i4).toNatClampNeg) (x := ((a4 93 (a4 4 i4).toNatClampNeg) ||| (1 <<< ((a4 5 i4) &&& 31)))) (by rfl) (Fr.rf _ _))) (Fr.rf _ _))
def F_takeEvents_b (s : SG) (mask : Int32) : SG := let z1 := fil s 93 24 0; let z2 := fil z1 94 24 0; let z3 := fil z2 95 24 0; let z4 := itr (B_takeEvents_b_14 mask) 0 ((z3 2 3).toNatClampNeg) z3; z4
theorem fr_takeEvents_b (s : SG) (mask : Int32)  : Fr W_takeEvents_b s (F_takeEvents_b s mask) := by dsimp only [F_takeEvents_b]; exact (let z1 : SG := fil s 93 24 0; (let z2 : SG := fil z1 94 24 0; (let z3 : SG := fil z2 95 24 0; (Fr.itr (W := W_takeEvents_b) (m := (fun x : SG => x)) (f := (B_takeEvents_b_14 mask)) (fun ii aa => Fr.wk (W2 := W_takeEvents_b) (fr_B_takeEvents_b_14 mask ii aa ) (by rfl)) ((z3 2 3).toNatClampNeg) 0 z3 (Fr.fil (by rfl) (Fr.fil (by rfl) (Fr.fil (by rfl) (Fr.rf _ _))))))))
theorem ux_takeEvents_b (s : SG) (mask : Int32)  : UP m_X5_takeEvents 0 (m_ent 5 [.ref 58, .ref 2, .int mask]) [] s (Qv (F_takeEvents_b s mask)) := by
  refine UP.stp 3 (i1 := 3) (L1 := [some (.ref 58), some (.ref 2), some (.int mask), none, none]) (st1 := [.int 0, .ref 93]) (s1 := s) rfl ?_
  refine UP.cV (M1 := m_J7_fill_53178) (as := [.ref 93, .int 0]) (rest := []) (T := fil s 93 24 0) rfl rfl (ux_fill s 93 0 24 rfl (by decide)) (fun z1 e1 => ?_)
  refine UP.stp 3 (i1 := 7) (L1 := [some (.ref 58), some (.ref 2), some (.int mask), none, none]) (st1 := [.int 0, .ref 94]) (s1 := z1) rfl ?_
  refine UP.cV (M1 := m_J7_fill_53178) (as := [.ref 94, .int 0]) (rest := []) (T := fil z1 94 24 0) rfl rfl (ux_fill z1 94 0 24 rfl (by decide)) (fun z2 e2 => ?_)
  refine UP.stp 3 (i1 := 11) (L1 := [some (.ref 58), some (.ref 2), some (.int mask), none, none]) (st1 := [.int 0, .ref 95]) (s1 := z2) rfl ?_
  refine UP.cV (M1 := m_J7_fill_53178) (as := [.ref 95, .int 0]) (rest := []) (T := fil z2 95 24 0) rfl rfl (ux_fill z2 95 0 24 rfl (by decide)) (fun z3 e3 => ?_)
  refine UP.stp 2 (i1 := 14) (L1 := [some (.ref 58), some (.ref 2), some (.int mask), some (.int 0), none]) (st1 := []) (s1 := z3) rfl ?_
  refine lp (fun (i4 : Nat) (a4 : SG) => ∀ (u4_4 : Option Value), UP m_X5_takeEvents 14 [some (.ref 58), some (.ref 2), some (.int mask), some (.int (Int32.ofNat i4)), u4_4] [] a4 (Qv (F_takeEvents_b s mask))) (fun (_ : Nat) (a4 : SG) => Fr W_takeEvents_b z3 a4) (B_takeEvents_b_14 mask) ((z3 2 3).toNatClampNeg) (fun i4 a4 hi4 g4 => g4.tr (fr_B_takeEvents_b_14 mask i4 a4 )) (fun i4 a4 hi4 g4 kk => ?_) ((z3 2 3).toNatClampNeg) (0) z3 (by  omega) (Fr.rf _ _) (fun z4 e4 g4 => ?_) none
  · skip
    intro u4_4
    have hbi4 := cl_lt (z3 2 3)
    refine UP.stp 3 (i1 := 17) (L1 := [some (.ref 58), some (.ref 2), some (.int mask), some (.int (Int32.ofNat i4)), u4_4]) (st1 := [.int (a4 2 3), .int (Int32.ofNat i4)]) (s1 := a4) rfl ?_
    refine UP.icF rfl (by rw [(g4 2 3 rfl)]; exact ge_F hi4) ?_
    refine UP.stp 5 (i1 := 23) (L1 := [some (.ref 58), some (.ref 2), some (.int mask), some (.int (Int32.ofNat i4)), u4_4]) (st1 := [.int ((mask >>> ((Int32.ofNat i4) &&& 31)) &&& (1 : Int32))]) (s1 := a4) rfl ?_
    refine mrg (m_cmp .ne ((mask >>> ((Int32.ofNat i4) &&& 31)) &&& (1 : Int32)) 0) (bif m_cmp .ne (a4 3 i4) 0 then (bif m_cmp .ne (a4 3 i4) 1 then (uset a4 95 (a4 4 i4).toNatClampNeg ((a4 95 (a4 4 i4).toNatClampNeg) + 3)) else (uset a4 94 (a4 4 i4).toNatClampNeg ((a4 94 (a4 4 i4).toNatClampNeg) + (bif m_cmp .ne ((a4 5 i4) - (a4 5 i4) / 2 * 2) 1 then (-2 : Int32) else (2 : Int32))))) else (uset a4 93 (a4 4 i4).toNatClampNeg ((a4 93 (a4 4 i4).toNatClampNeg) ||| (1 <<< ((a4 5 i4) &&& 31))))) a4 (fun v13 : SG => ∀ (u12 : Option Value), UP m_X5_takeEvents 82 [some (.ref 58), some (.ref 2), some (.int mask), some (.int (Int32.ofNat i4)), u12] [] v13 (Qv (F_takeEvents_b s mask))) (fun cc kk => ?_) (fun cc kk => ?_) (fun v13 e13 u12 => ?_)
    · skip
      refine UP.ifT rfl cc ?_
      refine UP.stp 3 (i1 := 28) (L1 := [some (.ref 58), some (.ref 2), some (.int mask), some (.int (Int32.ofNat i4)), u4_4]) (st1 := [.int (Int32.ofNat i4), .ref 4]) (s1 := a4) rfl ?_
      refine UP.ald (e := i4) rfl rfl (by omega) ?_
      show UP m_X5_takeEvents 29 [some (.ref 58), some (.ref 2), some (.int mask), some (.int (Int32.ofNat i4)), u4_4] [.int (a4 4 i4)] a4 (Qv (F_takeEvents_b s mask))
      refine nm (G := fun v5 => UP m_X5_takeEvents 29 [some (.ref 58), some (.ref 2), some (.int mask), some (.int (Int32.ofNat i4)), u4_4] [.int v5] a4 (Qv (F_takeEvents_b s mask))) (a4 4 i4) (fun v5 e5 => ?_)
      refine UP.stp 4 (i1 := 33) (L1 := [some (.ref 58), some (.ref 2), some (.int mask), some (.int (Int32.ofNat i4)), some (.int v5)]) (st1 := [.int (Int32.ofNat i4), .ref 3]) (s1 := a4) rfl ?_
      refine UP.ald (e := i4) rfl rfl (by omega) ?_
      show UP m_X5_takeEvents 34 [some (.ref 58), some (.ref 2), some (.int mask), some (.int (Int32.ofNat i4)), some (.int v5)] [.int (a4 3 i4)] a4 (Qv (F_takeEvents_b s mask))
      refine mrg (m_cmp .ne (a4 3 i4) 0) (bif m_cmp .ne (a4 3 i4) 1 then (uset a4 95 v5.toNatClampNeg ((a4 95 v5.toNatClampNeg) + 3)) else (uset a4 94 v5.toNatClampNeg ((a4 94 v5.toNatClampNeg) + (bif m_cmp .ne ((a4 5 i4) - (a4 5 i4) / 2 * 2) 1 then (-2 : Int32) else (2 : Int32))))) (uset a4 93 v5.toNatClampNeg ((a4 93 v5.toNatClampNeg) ||| (1 <<< ((a4 5 i4) &&& 31)))) (fun v11 : SG => UP m_X5_takeEvents 82 [some (.ref 58), some (.ref 2), some (.int mask), some (.int (Int32.ofNat i4)), some (.int v5)] [] v11 (Qv (F_takeEvents_b s mask))) (fun cc kk => ?_) (fun cc kk => ?_) (fun v11 e11 => ?_)
      · skip
        refine UP.ifT rfl cc ?_
        refine UP.stp 3 (i1 := 52) (L1 := [some (.ref 58), some (.ref 2), some (.int mask), some (.int (Int32.ofNat i4)), some (.int v5)]) (st1 := [.int (Int32.ofNat i4), .ref 3]) (s1 := a4) rfl ?_
        refine UP.ald (e := i4) rfl rfl (by omega) ?_
        show UP m_X5_takeEvents 53 [some (.ref 58), some (.ref 2), some (.int mask), some (.int (Int32.ofNat i4)), some (.int v5)] [.int (a4 3 i4)] a4 (Qv (F_takeEvents_b s mask))
        refine UP.stp 1 (i1 := 54) (L1 := [some (.ref 58), some (.ref 2), some (.int mask), some (.int (Int32.ofNat i4)), some (.int v5)]) (st1 := [.int 1, .int (a4 3 i4)]) (s1 := a4) rfl ?_
        refine mrg (m_cmp .ne (a4 3 i4) 1) (uset a4 95 v5.toNatClampNeg ((a4 95 v5.toNatClampNeg) + 3)) (uset a4 94 v5.toNatClampNeg ((a4 94 v5.toNatClampNeg) + (bif m_cmp .ne ((a4 5 i4) - (a4 5 i4) / 2 * 2) 1 then (-2 : Int32) else (2 : Int32)))) (fun v9 : SG => UP m_X5_takeEvents 82 [some (.ref 58), some (.ref 2), some (.int mask), some (.int (Int32.ofNat i4)), some (.int v5)] [] v9 (Qv (F_takeEvents_b s mask))) (fun cc kk => ?_) (fun cc kk => ?_) (fun v9 e9 => ?_)
        · skip
          refine UP.icT rfl cc ?_
          refine UP.stp 7 (i1 := 81) (L1 := [some (.ref 58), some (.ref 2), some (.int mask), some (.int (Int32.ofNat i4)), some (.int v5)]) (st1 := [.int ((a4 95 v5.toNatClampNeg) + 3), .int v5, .ref 95]) (s1 := a4) rfl ?_
          refine nm (G := fun v6 => UP m_X5_takeEvents 81 [some (.ref 58), some (.ref 2), some (.int mask), some (.int (Int32.ofNat i4)), some (.int v5)] [.int v6, .int v5, .ref 95] a4 (Qv (F_takeEvents_b s mask))) ((a4 95 v5.toNatClampNeg) + 3) (fun v6 e6 => ?_)
          refine UP.stp 1 (i1 := 82) (L1 := [some (.ref 58), some (.ref 2), some (.int mask), some (.int (Int32.ofNat i4)), some (.int v5)]) (st1 := []) (s1 := (uset a4 95 v5.toNatClampNeg v6)) rfl ?_
          subst e6
          exact kk
        · skip
          refine UP.icF rfl cc ?_
          refine UP.stp 8 (i1 := 63) (L1 := [some (.ref 58), some (.ref 2), some (.int mask), some (.int (Int32.ofNat i4)), some (.int v5)]) (st1 := [.int (Int32.ofNat i4), .ref 5, .int (a4 94 v5.toNatClampNeg), .int v5, .ref 94]) (s1 := a4) rfl ?_
          refine UP.ald (e := i4) rfl rfl (by omega) ?_
          show UP m_X5_takeEvents 64 [some (.ref 58), some (.ref 2), some (.int mask), some (.int (Int32.ofNat i4)), some (.int v5)] [.int (a4 5 i4), .int (a4 94 v5.toNatClampNeg), .int v5, .ref 94] a4 (Qv (F_takeEvents_b s mask))
          refine UP.stp 3 (i1 := 67) (L1 := [some (.ref 58), some (.ref 2), some (.int mask), some (.int (Int32.ofNat i4)), some (.int v5)]) (st1 := [.int 1, .int ((a4 5 i4) - (a4 5 i4) / 2 * 2), .int (a4 94 v5.toNatClampNeg), .int v5, .ref 94]) (s1 := a4) rfl ?_
          refine mrg (m_cmp .ne ((a4 5 i4) - (a4 5 i4) / 2 * 2) 1) (-2 : Int32) (2 : Int32) (fun v7 : Int32 => UP m_X5_takeEvents 71 [some (.ref 58), some (.ref 2), some (.int mask), some (.int (Int32.ofNat i4)), some (.int v5)] [.int v7, .int (a4 94 v5.toNatClampNeg), .int v5, .ref 94] a4 (Qv (F_takeEvents_b s mask))) (fun cc kk => ?_) (fun cc kk => ?_) (fun v7 e7 => ?_)
          · skip
            refine UP.icT rfl cc ?_
            refine UP.stp 1 (i1 := 71) (L1 := [some (.ref 58), some (.ref 2), some (.int mask), some (.int (Int32.ofNat i4)), some (.int v5)]) (st1 := [.int (-2), .int (a4 94 v5.toNatClampNeg), .int v5, .ref 94]) (s1 := a4) rfl ?_
            exact kk
          · skip
            refine UP.icF rfl cc ?_
            refine UP.stp 2 (i1 := 71) (L1 := [some (.ref 58), some (.ref 2), some (.int mask), some (.int (Int32.ofNat i4)), some (.int v5)]) (st1 := [.int 2, .int (a4 94 v5.toNatClampNeg), .int v5, .ref 94]) (s1 := a4) rfl ?_
            exact kk
          refine UP.stp 1 (i1 := 72) (L1 := [some (.ref 58), some (.ref 2), some (.int mask), some (.int (Int32.ofNat i4)), some (.int v5)]) (st1 := [.int ((a4 94 v5.toNatClampNeg) + v7), .int v5, .ref 94]) (s1 := a4) rfl ?_
          refine nm (G := fun v8 => UP m_X5_takeEvents 72 [some (.ref 58), some (.ref 2), some (.int mask), some (.int (Int32.ofNat i4)), some (.int v5)] [.int v8, .int v5, .ref 94] a4 (Qv (F_takeEvents_b s mask))) ((a4 94 v5.toNatClampNeg) + v7) (fun v8 e8 => ?_)
          refine UP.stp 2 (i1 := 82) (L1 := [some (.ref 58), some (.ref 2), some (.int mask), some (.int (Int32.ofNat i4)), some (.int v5)]) (st1 := []) (s1 := (uset a4 94 v5.toNatClampNeg v8)) rfl ?_
          subst e8 e7
          exact kk
        subst e9
        exact kk
      · skip
        refine UP.ifF rfl cc ?_
        refine UP.stp 9 (i1 := 44) (L1 := [some (.ref 58), some (.ref 2), some (.int mask), some (.int (Int32.ofNat i4)), some (.int v5)]) (st1 := [.int (Int32.ofNat i4), .ref 5, .int 1, .int (a4 93 v5.toNatClampNeg), .int v5, .ref 93]) (s1 := a4) rfl ?_
        refine UP.ald (e := i4) rfl rfl (by omega) ?_
        show UP m_X5_takeEvents 45 [some (.ref 58), some (.ref 2), some (.int mask), some (.int (Int32.ofNat i4)), some (.int v5)] [.int (a4 5 i4), .int 1, .int (a4 93 v5.toNatClampNeg), .int v5, .ref 93] a4 (Qv (F_takeEvents_b s mask))
        refine UP.stp 2 (i1 := 47) (L1 := [some (.ref 58), some (.ref 2), some (.int mask), some (.int (Int32.ofNat i4)), some (.int v5)]) (st1 := [.int ((a4 93 v5.toNatClampNeg) ||| (1 <<< ((a4 5 i4) &&& 31))), .int v5, .ref 93]) (s1 := a4) rfl ?_
        refine nm (G := fun v10 => UP m_X5_takeEvents 47 [some (.ref 58), some (.ref 2), some (.int mask), some (.int (Int32.ofNat i4)), some (.int v5)] [.int v10, .int v5, .ref 93] a4 (Qv (F_takeEvents_b s mask))) ((a4 93 v5.toNatClampNeg) ||| (1 <<< ((a4 5 i4) &&& 31))) (fun v10 e10 => ?_)
        refine UP.stp 2 (i1 := 82) (L1 := [some (.ref 58), some (.ref 2), some (.int mask), some (.int (Int32.ofNat i4)), some (.int v5)]) (st1 := []) (s1 := (uset a4 93 v5.toNatClampNeg v10)) rfl ?_
        subst e10
        exact kk
      subst e11 e5
      exact kk _
    · skip
      refine UP.ifF rfl cc ?_
      refine UP.stp 1 (i1 := 82) (L1 := [some (.ref 58), some (.ref 2), some (.int mask), some (.int (Int32.ofNat i4)), u4_4]) (st1 := []) (s1 := a4) rfl ?_
      exact kk _
    refine UP.stp 2 (i1 := 14) (L1 := [some (.ref 58), some (.ref 2), some (.int mask), some (.int ((Int32.ofNat i4) + 1)), u12]) (st1 := []) (s1 := v13) rfl ?_
    subst e13
    rw [ofn_s]
    try dsimp only [B_takeEvents_b_14] at kk
    exact kk _
  intro u4_4
  refine UP.stp 3 (i1 := 17) (L1 := [some (.ref 58), some (.ref 2), some (.int mask), some (.int (Int32.ofNat ((z3 2 3).toNatClampNeg))), u4_4]) (st1 := [.int (z4 2 3), .int (Int32.ofNat ((z3 2 3).toNatClampNeg))]) (s1 := z4) rfl ?_
  refine UP.icT rfl (by rw [(g4 2 3 rfl)]; exact ge_T _) ?_
  exact UP.ret (r := none) rfl ⟨by subst e4 e3 e2 e1; first | (dsimp only [F_takeEvents_b]; done) | (dsimp only; done) | rfl, by subst e4 e3 e2 e1; first | (dsimp only [F_takeEvents_b]; done) | (dsimp only; done) | rfl⟩
def W_takeRowers_b : List (Nat × Nat × Option Nat) := [(89, 92, none)]
def B_takeRowers_b_2  (i1 : Nat) (a1 : SG) : SG := let v2 := a1 54 i1; let v3 := a1 55 i1; let v5 := bif m_cmp .ne v2 1 then (bif m_cmp .ne v2 2 then v3 else v3 - 1) else v3 + 2; let v7 := bif m_cmp .ne v2 1 then (bif m_cmp .ne v2 2 then v3 else v3 + 1) else v3 - 1; (uset (uset (uset (uset a1 91 i1 v5) 92 i1 v7) 89 i1 0) 90 i1 0)
theorem fr_B_takeRowers_b_2  (i1 : Nat) (a1 : SG)   : Fr W_takeRowers_b a1 ((B_takeRowers_b_2) i1 a1) := by dsimp only [B_takeRowers_b_2]; exact (let v2 : Int32 := a1 54 i1; (let v3 : Int32 := a1 55 i1; (let v5 : Int32 := bif m_cmp .ne v2 1 then (bif m_cmp .ne v2 2 then v3 else v3 - 1) else v3 + 2; (let v7 : Int32 := bif m_cmp .ne v2 1 then (bif m_cmp .ne v2 2 then v3 else v3 + 1) else v3 - 1; (Fr.uset (s1 := (uset (uset (uset a1 91 i1 v5) 92 i1 v7) 89 i1 0)) (a := 90) (j := i1) (x := 0) (by rfl) (Fr.uset (s1 := (uset (uset a1 91 i1 v5) 92 i1 v7)) (a := 89) (j := i1) (x := 0) (by rfl) (Fr.uset (s1 := (uset a1 91 i1 v5)) (a := 92) (j := i1) (x := v7) (by rfl) (Fr.uset (s1 := a1) (a := 91) (j := i1) (x := v5) (by rfl) (Fr.rf _ _)))))))))
def F_takeRowers_b (s : SG)  : SG := let z1 := itr (B_takeRowers_b_2) 0 ((s 53 0).toNatClampNeg) s; z1
theorem fr_takeRowers_b (s : SG)   : Fr W_takeRowers_b s (F_takeRowers_b s) := by dsimp only [F_takeRowers_b]; exact (Fr.itr (W := W_takeRowers_b) (m := (fun x : SG => x)) (f := (B_takeRowers_b_2)) (fun ii aa => Fr.wk (W2 := W_takeRowers_b) (fr_B_takeRowers_b_2  ii aa ) (by rfl)) ((s 53 0).toNatClampNeg) 0 s (Fr.rf _ _))
theorem ux_takeRowers_b (s : SG)   : UP m_X5_takeRowers 0 (m_ent 5 [.ref 58, .ref 53]) [] s (Qv (F_takeRowers_b s)) := by
  refine UP.stp 2 (i1 := 2) (L1 := [some (.ref 58), some (.ref 53), some (.int 0), none, none]) (st1 := []) (s1 := s) rfl ?_
  refine lp (fun (i1 : Nat) (a1 : SG) => ∀ (u1_3 : Option Value) (u1_4 : Option Value), UP m_X5_takeRowers 2 [some (.ref 58), some (.ref 53), some (.int (Int32.ofNat i1)), u1_3, u1_4] [] a1 (Qv (F_takeRowers_b s))) (fun (_ : Nat) (a1 : SG) => Fr W_takeRowers_b s a1) (B_takeRowers_b_2) ((s 53 0).toNatClampNeg) (fun i1 a1 hi1 g1 => g1.tr (fr_B_takeRowers_b_2  i1 a1 )) (fun i1 a1 hi1 g1 kk => ?_) ((s 53 0).toNatClampNeg) (0) s (by  omega) (Fr.rf _ _) (fun z1 e1 g1 => ?_) none none
  · skip
    intro u1_3 u1_4
    have hbi1 := cl_lt (s 53 0)
    refine UP.stp 3 (i1 := 5) (L1 := [some (.ref 58), some (.ref 53), some (.int (Int32.ofNat i1)), u1_3, u1_4]) (st1 := [.int (a1 53 0), .int (Int32.ofNat i1)]) (s1 := a1) rfl ?_
    refine UP.icF rfl (by rw [(g1 53 0 rfl)]; exact ge_F hi1) ?_
    refine UP.stp 3 (i1 := 9) (L1 := [some (.ref 58), some (.ref 53), some (.int (Int32.ofNat i1)), u1_3, u1_4]) (st1 := [.int (Int32.ofNat i1), .ref 54]) (s1 := a1) rfl ?_
    refine UP.ald (e := i1) rfl rfl (by omega) ?_
    show UP m_X5_takeRowers 10 [some (.ref 58), some (.ref 53), some (.int (Int32.ofNat i1)), u1_3, u1_4] [.int (a1 54 i1)] a1 (Qv (F_takeRowers_b s))
    refine nm (G := fun v2 => UP m_X5_takeRowers 10 [some (.ref 58), some (.ref 53), some (.int (Int32.ofNat i1)), u1_3, u1_4] [.int v2] a1 (Qv (F_takeRowers_b s))) (a1 54 i1) (fun v2 e2 => ?_)
    refine UP.stp 4 (i1 := 14) (L1 := [some (.ref 58), some (.ref 53), some (.int (Int32.ofNat i1)), some (.int v2), u1_4]) (st1 := [.int (Int32.ofNat i1), .ref 55]) (s1 := a1) rfl ?_
    refine UP.ald (e := i1) rfl rfl (by omega) ?_
    show UP m_X5_takeRowers 15 [some (.ref 58), some (.ref 53), some (.int (Int32.ofNat i1)), some (.int v2), u1_4] [.int (a1 55 i1)] a1 (Qv (F_takeRowers_b s))
    refine nm (G := fun v3 => UP m_X5_takeRowers 15 [some (.ref 58), some (.ref 53), some (.int (Int32.ofNat i1)), some (.int v2), u1_4] [.int v3] a1 (Qv (F_takeRowers_b s))) (a1 55 i1) (fun v3 e3 => ?_)
    refine UP.stp 6 (i1 := 21) (L1 := [some (.ref 58), some (.ref 53), some (.int (Int32.ofNat i1)), some (.int v2), some (.int v3)]) (st1 := [.int 1, .int v2, .int (Int32.ofNat i1), .ref 91]) (s1 := a1) rfl ?_
    refine mrg (m_cmp .ne v2 1) (bif m_cmp .ne v2 2 then v3 else v3 - 1) (v3 + 2) (fun v5 : Int32 => UP m_X5_takeRowers 34 [some (.ref 58), some (.ref 53), some (.int (Int32.ofNat i1)), some (.int v2), some (.int v3)] [.int v5, .int (Int32.ofNat i1), .ref 91] a1 (Qv (F_takeRowers_b s))) (fun cc kk => ?_) (fun cc kk => ?_) (fun v5 e5 => ?_)
    · skip
      refine UP.icT rfl cc ?_
      refine UP.stp 2 (i1 := 28) (L1 := [some (.ref 58), some (.ref 53), some (.int (Int32.ofNat i1)), some (.int v2), some (.int v3)]) (st1 := [.int 2, .int v2, .int (Int32.ofNat i1), .ref 91]) (s1 := a1) rfl ?_
      refine mrg (m_cmp .ne v2 2) v3 (v3 - 1) (fun v4 : Int32 => UP m_X5_takeRowers 34 [some (.ref 58), some (.ref 53), some (.int (Int32.ofNat i1)), some (.int v2), some (.int v3)] [.int v4, .int (Int32.ofNat i1), .ref 91] a1 (Qv (F_takeRowers_b s))) (fun cc kk => ?_) (fun cc kk => ?_) (fun v4 e4 => ?_)
      · skip
        refine UP.icT rfl cc ?_
        refine UP.stp 1 (i1 := 34) (L1 := [some (.ref 58), some (.ref 53), some (.int (Int32.ofNat i1)), some (.int v2), some (.int v3)]) (st1 := [.int v3, .int (Int32.ofNat i1), .ref 91]) (s1 := a1) rfl ?_
        exact kk
      · skip
        refine UP.icF rfl cc ?_
        refine UP.stp 4 (i1 := 34) (L1 := [some (.ref 58), some (.ref 53), some (.int (Int32.ofNat i1)), some (.int v2), some (.int v3)]) (st1 := [.int (v3 - 1), .int (Int32.ofNat i1), .ref 91]) (s1 := a1) rfl ?_
        exact kk
      subst e4
      exact kk
    · skip
      refine UP.icF rfl cc ?_
      refine UP.stp 4 (i1 := 34) (L1 := [some (.ref 58), some (.ref 53), some (.int (Int32.ofNat i1)), some (.int v2), some (.int v3)]) (st1 := [.int (v3 + 2), .int (Int32.ofNat i1), .ref 91]) (s1 := a1) rfl ?_
      exact kk
    refine UP.ast (e := i1) rfl rfl (by omega) ?_
    show UP m_X5_takeRowers 35 [some (.ref 58), some (.ref 53), some (.int (Int32.ofNat i1)), some (.int v2), some (.int v3)] [] (uset a1 91 i1 v5) (Qv (F_takeRowers_b s))
    refine UP.stp 5 (i1 := 40) (L1 := [some (.ref 58), some (.ref 53), some (.int (Int32.ofNat i1)), some (.int v2), some (.int v3)]) (st1 := [.int 1, .int v2, .int (Int32.ofNat i1), .ref 92]) (s1 := (uset a1 91 i1 v5)) rfl ?_
    refine mrg (m_cmp .ne v2 1) (bif m_cmp .ne v2 2 then v3 else v3 + 1) (v3 - 1) (fun v7 : Int32 => UP m_X5_takeRowers 53 [some (.ref 58), some (.ref 53), some (.int (Int32.ofNat i1)), some (.int v2), some (.int v3)] [.int v7, .int (Int32.ofNat i1), .ref 92] (uset a1 91 i1 v5) (Qv (F_takeRowers_b s))) (fun cc kk => ?_) (fun cc kk => ?_) (fun v7 e7 => ?_)
    · skip
      refine UP.icT rfl cc ?_
      refine UP.stp 2 (i1 := 47) (L1 := [some (.ref 58), some (.ref 53), some (.int (Int32.ofNat i1)), some (.int v2), some (.int v3)]) (st1 := [.int 2, .int v2, .int (Int32.ofNat i1), .ref 92]) (s1 := (uset a1 91 i1 v5)) rfl ?_
      refine mrg (m_cmp .ne v2 2) v3 (v3 + 1) (fun v6 : Int32 => UP m_X5_takeRowers 53 [some (.ref 58), some (.ref 53), some (.int (Int32.ofNat i1)), some (.int v2), some (.int v3)] [.int v6, .int (Int32.ofNat i1), .ref 92] (uset a1 91 i1 v5) (Qv (F_takeRowers_b s))) (fun cc kk => ?_) (fun cc kk => ?_) (fun v6 e6 => ?_)
      · skip
        refine UP.icT rfl cc ?_
        refine UP.stp 1 (i1 := 53) (L1 := [some (.ref 58), some (.ref 53), some (.int (Int32.ofNat i1)), some (.int v2), some (.int v3)]) (st1 := [.int v3, .int (Int32.ofNat i1), .ref 92]) (s1 := (uset a1 91 i1 v5)) rfl ?_
        exact kk
      · skip
        refine UP.icF rfl cc ?_
        refine UP.stp 4 (i1 := 53) (L1 := [some (.ref 58), some (.ref 53), some (.int (Int32.ofNat i1)), some (.int v2), some (.int v3)]) (st1 := [.int (v3 + 1), .int (Int32.ofNat i1), .ref 92]) (s1 := (uset a1 91 i1 v5)) rfl ?_
        exact kk
      subst e6
      exact kk
    · skip
      refine UP.icF rfl cc ?_
      refine UP.stp 4 (i1 := 53) (L1 := [some (.ref 58), some (.ref 53), some (.int (Int32.ofNat i1)), some (.int v2), some (.int v3)]) (st1 := [.int (v3 - 1), .int (Int32.ofNat i1), .ref 92]) (s1 := (uset a1 91 i1 v5)) rfl ?_
      exact kk
    refine UP.ast (e := i1) rfl rfl (by omega) ?_
    show UP m_X5_takeRowers 54 [some (.ref 58), some (.ref 53), some (.int (Int32.ofNat i1)), some (.int v2), some (.int v3)] [] (uset (uset a1 91 i1 v5) 92 i1 v7) (Qv (F_takeRowers_b s))
    refine UP.stp 4 (i1 := 58) (L1 := [some (.ref 58), some (.ref 53), some (.int (Int32.ofNat i1)), some (.int v2), some (.int v3)]) (st1 := [.int 0, .int (Int32.ofNat i1), .ref 89]) (s1 := (uset (uset a1 91 i1 v5) 92 i1 v7)) rfl ?_
    refine UP.ast (e := i1) rfl rfl (by omega) ?_
    show UP m_X5_takeRowers 59 [some (.ref 58), some (.ref 53), some (.int (Int32.ofNat i1)), some (.int v2), some (.int v3)] [] (uset (uset (uset a1 91 i1 v5) 92 i1 v7) 89 i1 0) (Qv (F_takeRowers_b s))
    refine UP.stp 4 (i1 := 63) (L1 := [some (.ref 58), some (.ref 53), some (.int (Int32.ofNat i1)), some (.int v2), some (.int v3)]) (st1 := [.int 0, .int (Int32.ofNat i1), .ref 90]) (s1 := (uset (uset (uset a1 91 i1 v5) 92 i1 v7) 89 i1 0)) rfl ?_
    refine UP.ast (e := i1) rfl rfl (by omega) ?_
    show UP m_X5_takeRowers 64 [some (.ref 58), some (.ref 53), some (.int (Int32.ofNat i1)), some (.int v2), some (.int v3)] [] (uset (uset (uset (uset a1 91 i1 v5) 92 i1 v7) 89 i1 0) 90 i1 0) (Qv (F_takeRowers_b s))
    refine UP.stp 2 (i1 := 2) (L1 := [some (.ref 58), some (.ref 53), some (.int ((Int32.ofNat i1) + 1)), some (.int v2), some (.int v3)]) (st1 := []) (s1 := (uset (uset (uset (uset a1 91 i1 v5) 92 i1 v7) 89 i1 0) 90 i1 0)) rfl ?_
    subst e7 e5 e3 e2
    rw [ofn_s]
    try dsimp only [B_takeRowers_b_2] at kk
    exact kk _ _
  intro u1_3 u1_4
  refine UP.stp 3 (i1 := 5) (L1 := [some (.ref 58), some (.ref 53), some (.int (Int32.ofNat ((s 53 0).toNatClampNeg))), u1_3, u1_4]) (st1 := [.int (z1 53 0), .int (Int32.ofNat ((s 53 0).toNatClampNeg))]) (s1 := z1) rfl ?_
  refine UP.icT rfl (by rw [(g1 53 0 rfl)]; exact ge_T _) ?_
  exact UP.ret (r := none) rfl ⟨by subst e1; first | (dsimp only [F_takeRowers_b]; done) | (dsimp only; done) | rfl, by subst e1; first | (dsimp only [F_takeRowers_b]; done) | (dsimp only; done) | rfl⟩
def W_pullAll_b : List (Nat × Nat × Option Nat) := [(61, 62, none), (65, 88, none), (89, 90, none)]
def B_pullAll_b_33 (t : Nat) (v3 : Int32) (i4 : Nat) (a4 : SG × Int32 × Int32) : SG × Int32 × Int32 := let w8 := bif m_cmp .ne ((v3 >>> ((Int32.ofNat i4) &&& 31)) &&& (1 : Int32)) 0 then ((0 : Int32), a4.1) else ((bif m_cmp .ge (a4.1 89 i4) 6 then a4.1 92 i4 else a4.1 91 i4), (uset (uset a4.1 89 i4 ((a4.1 89 i4) + 1)) 90 i4 ((a4.1 90 i4) + (bif m_cmp .ge (a4.1 89 i4) 6 then a4.1 92 i4 else a4.1 91 i4)))); let w11 := bif m_cmp .ne ((Int32.ofNat i4) - (Int32.ofNat i4) / 2 * 2) 0 then (a4.2.1, (a4.2.2 + w8.1)) else ((a4.2.1 + w8.1), a4.2.2); ((uset w8.2 (65 + t) i4 w8.1), w11.1, w11.2)
theorem fr_B_pullAll_b_33 (t : Nat) (v3 : Int32) (i4 : Nat) (a4 : SG × Int32 × Int32) (ht : t < 24)  : Fr W_pullAll_b a4.1 ((B_pullAll_b_33 t v3) i4 a4).1 := by dsimp only [B_pullAll_b_33]; exact (let w8 : Int32 × SG := bif m_cmp .ne ((v3 >>> ((Int32.ofNat i4) &&& 31)) &&& (1 : Int32)) 0 then ((0 : Int32), a4.1) else ((bif m_cmp .ge (a4.1 89 i4) 6 then a4.1 92 i4 else a4.1 91 i4), (uset (uset a4.1 89 i4 ((a4.1 89 i4) + 1)) 90 i4 ((a4.1 90 i4) + (bif m_cmp .ge (a4.1 89 i4) 6 then a4.1 92 i4 else a4.1 91 i4)))); (Fr.uset (s1 := w8.2) (a := 65 + t) (j := i4) (x := w8.1) (inW_r 65 88 (by omega) (by omega) rfl) (Fr.bifp (b := m_cmp .ne ((v3 >>> ((Int32.ofNat i4) &&& 31)) &&& (1 : Int32)) 0) (x := ((0 : Int32), a4.1)) (y := ((bif m_cmp .ge (a4.1 89 i4) 6 then a4.1 92 i4 else a4.1 91 i4), (uset (uset a4.1 89 i4 ((a4.1 89 i4) + 1)) 90 i4 ((a4.1 90 i4) + (bif m_cmp .ge (a4.1 89 i4) 6 then a4.1 92 i4 else a4.1 91 i4))))) (fun x : Int32 × SG => x.2) (by (try dsimp only); exact (Fr.rf _ _)) (by (try dsimp only); exact (Fr.uset (s1 := (uset a4.1 89 i4 ((a4.1 89 i4) + 1))) (a := 90) (j := i4) (x := ((a4.1 90 i4) + (bif m_cmp .ge (a4.1 89 i4) 6 then a4.1 92 i4 else a4.1 91 i4))) (by rfl) (Fr.uset (s1 := a4.1) (a := 89) (j := i4) (x := ((a4.1 89 i4) + 1)) (by rfl) (Fr.rf _ _)))))))
def F_pullAll_b (s : SG) (t : Nat) : SG := let v2 := bif m_cmp .ne (s 58 8) (-1) then (0 : Int32) else (bif m_cmp .le (s 56 t) 0 then (0 : Int32) else (1 : Int32)); let v3 := bif m_cmp .eq v2 0 then (255 : Int32) else s 93 t; let z4 := itr (B_pullAll_b_33 t v3) 0 ((s 53 0).toNatClampNeg) (s, 0, 0); (uset (uset z4.1 61 t z4.2.1) 62 t z4.2.2)
theorem fr_pullAll_b (s : SG) (t : Nat) (ht : t < 24) : Fr W_pullAll_b s (F_pullAll_b s t) := by dsimp only [F_pullAll_b]; exact (let v2 : Int32 := bif m_cmp .ne (s 58 8) (-1) then (0 : Int32) else (bif m_cmp .le (s 56 t) 0 then (0 : Int32) else (1 : Int32)); (let v3 : Int32 := bif m_cmp .eq v2 0 then (255 : Int32) else s 93 t; (let z4 : SG × Int32 × Int32 := itr (B_pullAll_b_33 t v3) 0 ((s 53 0).toNatClampNeg) (s, 0, 0); (Fr.uset (s1 := (uset z4.1 61 t z4.2.1)) (a := 62) (j := t) (x := z4.2.2) (by rfl) (Fr.uset (s1 := z4.1) (a := 61) (j := t) (x := z4.2.1) (by rfl) (Fr.itr (W := W_pullAll_b) (m := (fun x : SG × Int32 × Int32 => x.1)) (f := (B_pullAll_b_33 t v3)) (fun ii aa => Fr.wk (W2 := W_pullAll_b) (fr_B_pullAll_b_33 t v3 ii aa ht) (by rfl)) ((s 53 0).toNatClampNeg) 0 (s, 0, 0) (Fr.rf _ _)))))))
theorem ux_pullAll_b (s : SG) (t : Nat) (ht : t < 24) : UP m_X5_pullAll 0 (m_ent 10 [.ref 58, .ref 53, .int (Int32.ofNat t)]) [] s (Qv (F_pullAll_b s t)) := by
  refine UP.stp 3 (i1 := 3) (L1 := [some (.ref 58), some (.ref 53), some (.int (Int32.ofNat t)), none, none, none, none, none, none, none]) (st1 := [.int (-1), .int (s 58 8)]) (s1 := s) rfl ?_
  refine mrg (m_cmp .ne (s 58 8) (-1)) (0 : Int32) (bif m_cmp .le (s 56 t) 0 then (0 : Int32) else (1 : Int32)) (fun v2 : Int32 => UP m_X5_pullAll 12 [some (.ref 58), some (.ref 53), some (.int (Int32.ofNat t)), none, none, none, none, none, none, none] [.int v2] s (Qv (F_pullAll_b s t))) (fun cc kk => ?_) (fun cc kk => ?_) (fun v2 e2 => ?_)
  · skip
    refine UP.icT rfl cc ?_
    refine UP.stp 1 (i1 := 12) (L1 := [some (.ref 58), some (.ref 53), some (.int (Int32.ofNat t)), none, none, none, none, none, none, none]) (st1 := [.int 0]) (s1 := s) rfl ?_
    exact kk
  · skip
    refine UP.icF rfl cc ?_
    refine UP.stp 3 (i1 := 7) (L1 := [some (.ref 58), some (.ref 53), some (.int (Int32.ofNat t)), none, none, none, none, none, none, none]) (st1 := [.int (Int32.ofNat t), .ref 56]) (s1 := s) rfl ?_
    refine UP.ald (e := t) rfl rfl (by omega) ?_
    show UP m_X5_pullAll 8 [some (.ref 58), some (.ref 53), some (.int (Int32.ofNat t)), none, none, none, none, none, none, none] [.int (s 56 t)] s (Qv (F_pullAll_b s t))
    refine mrg (m_cmp .le (s 56 t) 0) (0 : Int32) (1 : Int32) (fun v1 : Int32 => UP m_X5_pullAll 12 [some (.ref 58), some (.ref 53), some (.int (Int32.ofNat t)), none, none, none, none, none, none, none] [.int v1] s (Qv (F_pullAll_b s t))) (fun cc kk => ?_) (fun cc kk => ?_) (fun v1 e1 => ?_)
    · skip
      refine UP.ifT rfl cc ?_
      refine UP.stp 1 (i1 := 12) (L1 := [some (.ref 58), some (.ref 53), some (.int (Int32.ofNat t)), none, none, none, none, none, none, none]) (st1 := [.int 0]) (s1 := s) rfl ?_
      exact kk
    · skip
      refine UP.ifF rfl cc ?_
      refine UP.stp 2 (i1 := 12) (L1 := [some (.ref 58), some (.ref 53), some (.int (Int32.ofNat t)), none, none, none, none, none, none, none]) (st1 := [.int 1]) (s1 := s) rfl ?_
      exact kk
    subst e1
    exact kk
  refine UP.stp 2 (i1 := 14) (L1 := [some (.ref 58), some (.ref 53), some (.int (Int32.ofNat t)), some (.int v2), none, none, none, none, none, none]) (st1 := [.int v2]) (s1 := s) rfl ?_
  refine mrg (m_cmp .eq v2 0) (255 : Int32) (s 93 t) (fun v3 : Int32 => UP m_X5_pullAll 21 [some (.ref 58), some (.ref 53), some (.int (Int32.ofNat t)), some (.int v2), none, none, none, none, none, none] [.int v3] s (Qv (F_pullAll_b s t))) (fun cc kk => ?_) (fun cc kk => ?_) (fun v3 e3 => ?_)
  · skip
    refine UP.ifT rfl cc ?_
    refine UP.stp 1 (i1 := 21) (L1 := [some (.ref 58), some (.ref 53), some (.int (Int32.ofNat t)), some (.int v2), none, none, none, none, none, none]) (st1 := [.int 255]) (s1 := s) rfl ?_
    exact kk
  · skip
    refine UP.ifF rfl cc ?_
    refine UP.stp 3 (i1 := 18) (L1 := [some (.ref 58), some (.ref 53), some (.int (Int32.ofNat t)), some (.int v2), none, none, none, none, none, none]) (st1 := [.int (Int32.ofNat t), .ref 93]) (s1 := s) rfl ?_
    refine UP.ald (e := t) rfl rfl (by omega) ?_
    show UP m_X5_pullAll 19 [some (.ref 58), some (.ref 53), some (.int (Int32.ofNat t)), some (.int v2), none, none, none, none, none, none] [.int (s 93 t)] s (Qv (F_pullAll_b s t))
    refine UP.stp 1 (i1 := 21) (L1 := [some (.ref 58), some (.ref 53), some (.int (Int32.ofNat t)), some (.int v2), none, none, none, none, none, none]) (st1 := [.int (s 93 t)]) (s1 := s) rfl ?_
    exact kk
  refine UP.stp 4 (i1 := 25) (L1 := [some (.ref 58), some (.ref 53), some (.int (Int32.ofNat t)), some (.int v2), some (.int v3), none, none, none, none, none]) (st1 := [.int (Int32.ofNat t), .ref 64]) (s1 := s) rfl ?_
  refine UP.aald (e := t) (r := 65 + t) rfl rfl (by omega) rfl ?_
  refine UP.stp 7 (i1 := 33) (L1 := [some (.ref 58), some (.ref 53), some (.int (Int32.ofNat t)), some (.int v2), some (.int v3), some (.ref (65 + t)), some (.int 0), some (.int 0), some (.int 0), none]) (st1 := []) (s1 := s) rfl ?_
  refine lp (fun (i4 : Nat) (a4 : SG × Int32 × Int32) => ∀ (u4_3 : Option Value) (u4_9 : Option Value), UP m_X5_pullAll 33 [some (.ref 58), some (.ref 53), some (.int (Int32.ofNat t)), u4_3, some (.int v3), some (.ref (65 + t)), some (.int a4.2.1), some (.int a4.2.2), some (.int (Int32.ofNat i4)), u4_9] [] a4.1 (Qv (F_pullAll_b s t))) (fun (_ : Nat) (a4 : SG × Int32 × Int32) => Fr W_pullAll_b s a4.1) (B_pullAll_b_33 t v3) ((s 53 0).toNatClampNeg) (fun i4 a4 hi4 g4 => g4.tr (fr_B_pullAll_b_33 t v3 i4 a4 ht)) (fun i4 a4 hi4 g4 kk => ?_) ((s 53 0).toNatClampNeg) (0) (s, 0, 0) (by  omega) (Fr.rf _ _) (fun z4 e4 g4 => ?_) (some (.int v2)) none
  · skip
    intro u4_3 u4_9
    have hbi4 := cl_lt (s 53 0)
    refine UP.stp 3 (i1 := 36) (L1 := [some (.ref 58), some (.ref 53), some (.int (Int32.ofNat t)), u4_3, some (.int v3), some (.ref (65 + t)), some (.int a4.2.1), some (.int a4.2.2), some (.int (Int32.ofNat i4)), u4_9]) (st1 := [.int (a4.1 53 0), .int (Int32.ofNat i4)]) (s1 := a4.1) rfl ?_
    refine UP.icF rfl (by rw [(g4 53 0 rfl)]; exact ge_F hi4) ?_
    refine UP.stp 7 (i1 := 44) (L1 := [some (.ref 58), some (.ref 53), some (.int (Int32.ofNat t)), u4_3, some (.int v3), some (.ref (65 + t)), some (.int a4.2.1), some (.int a4.2.2), some (.int (Int32.ofNat i4)), some (.int 0)]) (st1 := [.int ((v3 >>> ((Int32.ofNat i4) &&& 31)) &&& (1 : Int32))]) (s1 := a4.1) rfl ?_
    refine mrg (m_cmp .ne ((v3 >>> ((Int32.ofNat i4) &&& 31)) &&& (1 : Int32)) 0) ((0 : Int32), a4.1) ((bif m_cmp .ge (a4.1 89 i4) 6 then a4.1 92 i4 else a4.1 91 i4), (uset (uset a4.1 89 i4 ((a4.1 89 i4) + 1)) 90 i4 ((a4.1 90 i4) + (bif m_cmp .ge (a4.1 89 i4) 6 then a4.1 92 i4 else a4.1 91 i4)))) (fun w8 : Int32 × SG => UP m_X5_pullAll 77 [some (.ref 58), some (.ref 53), some (.int (Int32.ofNat t)), u4_3, some (.int v3), some (.ref (65 + t)), some (.int a4.2.1), some (.int a4.2.2), some (.int (Int32.ofNat i4)), some (.int w8.1)] [] w8.2 (Qv (F_pullAll_b s t))) (fun cc kk => ?_) (fun cc kk => ?_) (fun w8 e8 => ?_)
    · skip
      refine UP.ifT rfl cc ?_
      exact kk
    · skip
      refine UP.ifF rfl cc ?_
      refine UP.stp 3 (i1 := 48) (L1 := [some (.ref 58), some (.ref 53), some (.int (Int32.ofNat t)), u4_3, some (.int v3), some (.ref (65 + t)), some (.int a4.2.1), some (.int a4.2.2), some (.int (Int32.ofNat i4)), some (.int 0)]) (st1 := [.int (Int32.ofNat i4), .ref 89]) (s1 := a4.1) rfl ?_
      refine UP.ald (e := i4) rfl rfl (by omega) ?_
      show UP m_X5_pullAll 49 [some (.ref 58), some (.ref 53), some (.int (Int32.ofNat t)), u4_3, some (.int v3), some (.ref (65 + t)), some (.int a4.2.1), some (.int a4.2.2), some (.int (Int32.ofNat i4)), some (.int 0)] [.int (a4.1 89 i4)] a4.1 (Qv (F_pullAll_b s t))
      refine UP.stp 1 (i1 := 50) (L1 := [some (.ref 58), some (.ref 53), some (.int (Int32.ofNat t)), u4_3, some (.int v3), some (.ref (65 + t)), some (.int a4.2.1), some (.int a4.2.2), some (.int (Int32.ofNat i4)), some (.int 0)]) (st1 := [.int 6, .int (a4.1 89 i4)]) (s1 := a4.1) rfl ?_
      refine mrg (m_cmp .ge (a4.1 89 i4) 6) (a4.1 92 i4) (a4.1 91 i4) (fun v5 : Int32 => UP m_X5_pullAll 60 [some (.ref 58), some (.ref 53), some (.int (Int32.ofNat t)), u4_3, some (.int v3), some (.ref (65 + t)), some (.int a4.2.1), some (.int a4.2.2), some (.int (Int32.ofNat i4)), some (.int 0)] [.int v5] a4.1 (Qv (F_pullAll_b s t))) (fun cc kk => ?_) (fun cc kk => ?_) (fun v5 e5 => ?_)
      · skip
        refine UP.icT rfl cc ?_
        refine UP.stp 3 (i1 := 59) (L1 := [some (.ref 58), some (.ref 53), some (.int (Int32.ofNat t)), u4_3, some (.int v3), some (.ref (65 + t)), some (.int a4.2.1), some (.int a4.2.2), some (.int (Int32.ofNat i4)), some (.int 0)]) (st1 := [.int (Int32.ofNat i4), .ref 92]) (s1 := a4.1) rfl ?_
        refine UP.ald (e := i4) rfl rfl (by omega) ?_
        show UP m_X5_pullAll 60 [some (.ref 58), some (.ref 53), some (.int (Int32.ofNat t)), u4_3, some (.int v3), some (.ref (65 + t)), some (.int a4.2.1), some (.int a4.2.2), some (.int (Int32.ofNat i4)), some (.int 0)] [.int (a4.1 92 i4)] a4.1 (Qv (F_pullAll_b s t))
        exact kk
      · skip
        refine UP.icF rfl cc ?_
        refine UP.stp 3 (i1 := 54) (L1 := [some (.ref 58), some (.ref 53), some (.int (Int32.ofNat t)), u4_3, some (.int v3), some (.ref (65 + t)), some (.int a4.2.1), some (.int a4.2.2), some (.int (Int32.ofNat i4)), some (.int 0)]) (st1 := [.int (Int32.ofNat i4), .ref 91]) (s1 := a4.1) rfl ?_
        refine UP.ald (e := i4) rfl rfl (by omega) ?_
        show UP m_X5_pullAll 55 [some (.ref 58), some (.ref 53), some (.int (Int32.ofNat t)), u4_3, some (.int v3), some (.ref (65 + t)), some (.int a4.2.1), some (.int a4.2.2), some (.int (Int32.ofNat i4)), some (.int 0)] [.int (a4.1 91 i4)] a4.1 (Qv (F_pullAll_b s t))
        refine UP.stp 1 (i1 := 60) (L1 := [some (.ref 58), some (.ref 53), some (.int (Int32.ofNat t)), u4_3, some (.int v3), some (.ref (65 + t)), some (.int a4.2.1), some (.int a4.2.2), some (.int (Int32.ofNat i4)), some (.int 0)]) (st1 := [.int (a4.1 91 i4)]) (s1 := a4.1) rfl ?_
        exact kk
      refine UP.stp 5 (i1 := 65) (L1 := [some (.ref 58), some (.ref 53), some (.int (Int32.ofNat t)), u4_3, some (.int v3), some (.ref (65 + t)), some (.int a4.2.1), some (.int a4.2.2), some (.int (Int32.ofNat i4)), some (.int v5)]) (st1 := [.int (Int32.ofNat i4), .ref 89, .int (Int32.ofNat i4), .ref 89]) (s1 := a4.1) rfl ?_
      refine UP.ald (e := i4) rfl rfl (by omega) ?_
      show UP m_X5_pullAll 66 [some (.ref 58), some (.ref 53), some (.int (Int32.ofNat t)), u4_3, some (.int v3), some (.ref (65 + t)), some (.int a4.2.1), some (.int a4.2.2), some (.int (Int32.ofNat i4)), some (.int v5)] [.int (a4.1 89 i4), .int (Int32.ofNat i4), .ref 89] a4.1 (Qv (F_pullAll_b s t))
      refine UP.stp 2 (i1 := 68) (L1 := [some (.ref 58), some (.ref 53), some (.int (Int32.ofNat t)), u4_3, some (.int v3), some (.ref (65 + t)), some (.int a4.2.1), some (.int a4.2.2), some (.int (Int32.ofNat i4)), some (.int v5)]) (st1 := [.int ((a4.1 89 i4) + 1), .int (Int32.ofNat i4), .ref 89]) (s1 := a4.1) rfl ?_
      refine nm (G := fun v6 => UP m_X5_pullAll 68 [some (.ref 58), some (.ref 53), some (.int (Int32.ofNat t)), u4_3, some (.int v3), some (.ref (65 + t)), some (.int a4.2.1), some (.int a4.2.2), some (.int (Int32.ofNat i4)), some (.int v5)] [.int v6, .int (Int32.ofNat i4), .ref 89] a4.1 (Qv (F_pullAll_b s t))) ((a4.1 89 i4) + 1) (fun v6 e6 => ?_)
      refine UP.ast (e := i4) rfl rfl (by omega) ?_
      show UP m_X5_pullAll 69 [some (.ref 58), some (.ref 53), some (.int (Int32.ofNat t)), u4_3, some (.int v3), some (.ref (65 + t)), some (.int a4.2.1), some (.int a4.2.2), some (.int (Int32.ofNat i4)), some (.int v5)] [] (uset a4.1 89 i4 v6) (Qv (F_pullAll_b s t))
      refine UP.stp 4 (i1 := 73) (L1 := [some (.ref 58), some (.ref 53), some (.int (Int32.ofNat t)), u4_3, some (.int v3), some (.ref (65 + t)), some (.int a4.2.1), some (.int a4.2.2), some (.int (Int32.ofNat i4)), some (.int v5)]) (st1 := [.int (Int32.ofNat i4), .ref 90, .int (Int32.ofNat i4), .ref 90]) (s1 := (uset a4.1 89 i4 v6)) rfl ?_
      refine UP.ald (e := i4) rfl rfl (by omega) ?_
      show UP m_X5_pullAll 74 [some (.ref 58), some (.ref 53), some (.int (Int32.ofNat t)), u4_3, some (.int v3), some (.ref (65 + t)), some (.int a4.2.1), some (.int a4.2.2), some (.int (Int32.ofNat i4)), some (.int v5)] [.int (a4.1 90 i4), .int (Int32.ofNat i4), .ref 90] (uset a4.1 89 i4 v6) (Qv (F_pullAll_b s t))
      refine UP.stp 2 (i1 := 76) (L1 := [some (.ref 58), some (.ref 53), some (.int (Int32.ofNat t)), u4_3, some (.int v3), some (.ref (65 + t)), some (.int a4.2.1), some (.int a4.2.2), some (.int (Int32.ofNat i4)), some (.int v5)]) (st1 := [.int ((a4.1 90 i4) + v5), .int (Int32.ofNat i4), .ref 90]) (s1 := (uset a4.1 89 i4 v6)) rfl ?_
      refine nm (G := fun v7 => UP m_X5_pullAll 76 [some (.ref 58), some (.ref 53), some (.int (Int32.ofNat t)), u4_3, some (.int v3), some (.ref (65 + t)), some (.int a4.2.1), some (.int a4.2.2), some (.int (Int32.ofNat i4)), some (.int v5)] [.int v7, .int (Int32.ofNat i4), .ref 90] (uset a4.1 89 i4 v6) (Qv (F_pullAll_b s t))) ((a4.1 90 i4) + v5) (fun v7 e7 => ?_)
      refine UP.ast (e := i4) rfl rfl (by omega) ?_
      show UP m_X5_pullAll 77 [some (.ref 58), some (.ref 53), some (.int (Int32.ofNat t)), u4_3, some (.int v3), some (.ref (65 + t)), some (.int a4.2.1), some (.int a4.2.2), some (.int (Int32.ofNat i4)), some (.int v5)] [] (uset (uset a4.1 89 i4 v6) 90 i4 v7) (Qv (F_pullAll_b s t))
      subst e7 e6 e5
      exact kk
    refine UP.stp 3 (i1 := 80) (L1 := [some (.ref 58), some (.ref 53), some (.int (Int32.ofNat t)), u4_3, some (.int v3), some (.ref (65 + t)), some (.int a4.2.1), some (.int a4.2.2), some (.int (Int32.ofNat i4)), some (.int w8.1)]) (st1 := [.int w8.1, .int (Int32.ofNat i4), .ref (65 + t)]) (s1 := w8.2) rfl ?_
    refine UP.ast (e := i4) rfl rfl (by omega) ?_
    show UP m_X5_pullAll 81 [some (.ref 58), some (.ref 53), some (.int (Int32.ofNat t)), u4_3, some (.int v3), some (.ref (65 + t)), some (.int a4.2.1), some (.int a4.2.2), some (.int (Int32.ofNat i4)), some (.int w8.1)] [] (uset w8.2 (65 + t) i4 w8.1) (Qv (F_pullAll_b s t))
    refine UP.stp 3 (i1 := 84) (L1 := [some (.ref 58), some (.ref 53), some (.int (Int32.ofNat t)), u4_3, some (.int v3), some (.ref (65 + t)), some (.int a4.2.1), some (.int a4.2.2), some (.int (Int32.ofNat i4)), some (.int w8.1)]) (st1 := [.int ((Int32.ofNat i4) - (Int32.ofNat i4) / 2 * 2)]) (s1 := (uset w8.2 (65 + t) i4 w8.1)) rfl ?_
    refine mrg (m_cmp .ne ((Int32.ofNat i4) - (Int32.ofNat i4) / 2 * 2) 0) (a4.2.1, (a4.2.2 + w8.1)) ((a4.2.1 + w8.1), a4.2.2) (fun w11 : Int32 × Int32 => UP m_X5_pullAll 94 [some (.ref 58), some (.ref 53), some (.int (Int32.ofNat t)), u4_3, some (.int v3), some (.ref (65 + t)), some (.int w11.1), some (.int w11.2), some (.int (Int32.ofNat i4)), some (.int w8.1)] [] (uset w8.2 (65 + t) i4 w8.1) (Qv (F_pullAll_b s t))) (fun cc kk => ?_) (fun cc kk => ?_) (fun w11 e11 => ?_)
    · skip
      refine UP.ifT rfl cc ?_
      refine UP.stp 3 (i1 := 93) (L1 := [some (.ref 58), some (.ref 53), some (.int (Int32.ofNat t)), u4_3, some (.int v3), some (.ref (65 + t)), some (.int a4.2.1), some (.int a4.2.2), some (.int (Int32.ofNat i4)), some (.int w8.1)]) (st1 := [.int (a4.2.2 + w8.1)]) (s1 := (uset w8.2 (65 + t) i4 w8.1)) rfl ?_
      refine nm (G := fun v9 => UP m_X5_pullAll 93 [some (.ref 58), some (.ref 53), some (.int (Int32.ofNat t)), u4_3, some (.int v3), some (.ref (65 + t)), some (.int a4.2.1), some (.int a4.2.2), some (.int (Int32.ofNat i4)), some (.int w8.1)] [.int v9] (uset w8.2 (65 + t) i4 w8.1) (Qv (F_pullAll_b s t))) (a4.2.2 + w8.1) (fun v9 e9 => ?_)
      refine UP.stp 1 (i1 := 94) (L1 := [some (.ref 58), some (.ref 53), some (.int (Int32.ofNat t)), u4_3, some (.int v3), some (.ref (65 + t)), some (.int a4.2.1), some (.int v9), some (.int (Int32.ofNat i4)), some (.int w8.1)]) (st1 := []) (s1 := (uset w8.2 (65 + t) i4 w8.1)) rfl ?_
      subst e9
      exact kk
    · skip
      refine UP.ifF rfl cc ?_
      refine UP.stp 3 (i1 := 88) (L1 := [some (.ref 58), some (.ref 53), some (.int (Int32.ofNat t)), u4_3, some (.int v3), some (.ref (65 + t)), some (.int a4.2.1), some (.int a4.2.2), some (.int (Int32.ofNat i4)), some (.int w8.1)]) (st1 := [.int (a4.2.1 + w8.1)]) (s1 := (uset w8.2 (65 + t) i4 w8.1)) rfl ?_
      refine nm (G := fun v10 => UP m_X5_pullAll 88 [some (.ref 58), some (.ref 53), some (.int (Int32.ofNat t)), u4_3, some (.int v3), some (.ref (65 + t)), some (.int a4.2.1), some (.int a4.2.2), some (.int (Int32.ofNat i4)), some (.int w8.1)] [.int v10] (uset w8.2 (65 + t) i4 w8.1) (Qv (F_pullAll_b s t))) (a4.2.1 + w8.1) (fun v10 e10 => ?_)
      refine UP.stp 2 (i1 := 94) (L1 := [some (.ref 58), some (.ref 53), some (.int (Int32.ofNat t)), u4_3, some (.int v3), some (.ref (65 + t)), some (.int v10), some (.int a4.2.2), some (.int (Int32.ofNat i4)), some (.int w8.1)]) (st1 := []) (s1 := (uset w8.2 (65 + t) i4 w8.1)) rfl ?_
      subst e10
      exact kk
    refine UP.stp 2 (i1 := 33) (L1 := [some (.ref 58), some (.ref 53), some (.int (Int32.ofNat t)), u4_3, some (.int v3), some (.ref (65 + t)), some (.int w11.1), some (.int w11.2), some (.int ((Int32.ofNat i4) + 1)), some (.int w8.1)]) (st1 := []) (s1 := (uset w8.2 (65 + t) i4 w8.1)) rfl ?_
    subst e11 e8
    rw [ofn_s]
    try dsimp only [B_pullAll_b_33] at kk
    exact kk _ _
  intro u4_3 u4_9
  refine UP.stp 3 (i1 := 36) (L1 := [some (.ref 58), some (.ref 53), some (.int (Int32.ofNat t)), u4_3, some (.int v3), some (.ref (65 + t)), some (.int z4.2.1), some (.int z4.2.2), some (.int (Int32.ofNat ((s 53 0).toNatClampNeg))), u4_9]) (st1 := [.int (z4.1 53 0), .int (Int32.ofNat ((s 53 0).toNatClampNeg))]) (s1 := z4.1) rfl ?_
  refine UP.icT rfl (by rw [(g4 53 0 rfl)]; exact ge_T _) ?_
  refine UP.stp 4 (i1 := 100) (L1 := [some (.ref 58), some (.ref 53), some (.int (Int32.ofNat t)), u4_3, some (.int v3), some (.ref (65 + t)), some (.int z4.2.1), some (.int z4.2.2), some (.int (Int32.ofNat ((s 53 0).toNatClampNeg))), u4_9]) (st1 := [.int z4.2.1, .int (Int32.ofNat t), .ref 61]) (s1 := z4.1) rfl ?_
  refine UP.ast (e := t) rfl rfl (by omega) ?_
  show UP m_X5_pullAll 101 [some (.ref 58), some (.ref 53), some (.int (Int32.ofNat t)), u4_3, some (.int v3), some (.ref (65 + t)), some (.int z4.2.1), some (.int z4.2.2), some (.int (Int32.ofNat ((s 53 0).toNatClampNeg))), u4_9] [] (uset z4.1 61 t z4.2.1) (Qv (F_pullAll_b s t))
  refine UP.stp 4 (i1 := 105) (L1 := [some (.ref 58), some (.ref 53), some (.int (Int32.ofNat t)), u4_3, some (.int v3), some (.ref (65 + t)), some (.int z4.2.1), some (.int z4.2.2), some (.int (Int32.ofNat ((s 53 0).toNatClampNeg))), u4_9]) (st1 := [.int z4.2.2, .int (Int32.ofNat t), .ref 62]) (s1 := (uset z4.1 61 t z4.2.1)) rfl ?_
  refine UP.ast (e := t) rfl rfl (by omega) ?_
  show UP m_X5_pullAll 106 [some (.ref 58), some (.ref 53), some (.int (Int32.ofNat t)), u4_3, some (.int v3), some (.ref (65 + t)), some (.int z4.2.1), some (.int z4.2.2), some (.int (Int32.ofNat ((s 53 0).toNatClampNeg))), u4_9] [] (uset (uset z4.1 61 t z4.2.1) 62 t z4.2.2) (Qv (F_pullAll_b s t))
  exact UP.ret (r := none) rfl ⟨by subst e4 e3 e2; first | (dsimp only [F_pullAll_b]; done) | (dsimp only; done) | rfl, by subst e4 e3 e2; first | (dsimp only [F_pullAll_b]; done) | (dsimp only; done) | rfl⟩
def W_placeBehind_b : List (Nat × Nat × Option Nat) := [(63, 63, none)]
def F_placeBehind_b (s : SG) (t : Nat) (p : Int32) : Int32 × SG := let v1 := ((s 56 t) * ((s 61 t) - (s 62 t))) / 6; let v2 := s 57 t; let v4 := bif m_cmp .ne v2 2 then (bif m_cmp .ne v2 1 then (0 : Int32) else (-1 : Int32)) else (1 : Int32); let v5 := ((p + v1) + v4) + (s 94 t); bif m_cmp .le v5 0 then (let v8 := bif m_cmp .gt v5 0 then (20 : Int32) else (0 : Int32); (v8, (uset s 63 t 1))) else (bif m_cmp .ge v5 20 then (let v11 := bif m_cmp .gt v5 0 then (20 : Int32) else (0 : Int32); (v11, (uset s 63 t 1))) else ((v5, s)))
theorem fr_placeBehind_b (s : SG) (t : Nat) (p : Int32)  : Fr W_placeBehind_b s (F_placeBehind_b s t p).2 := by dsimp only [F_placeBehind_b]; exact (let v1 : Int32 := ((s 56 t) * ((s 61 t) - (s 62 t))) / 6; (let v2 : Int32 := s 57 t; (let v4 : Int32 := bif m_cmp .ne v2 2 then (bif m_cmp .ne v2 1 then (0 : Int32) else (-1 : Int32)) else (1 : Int32); (let v5 : Int32 := ((p + v1) + v4) + (s 94 t); (Fr.bifp (b := m_cmp .le v5 0) (x := let v8 := bif m_cmp .gt v5 0 then (20 : Int32) else (0 : Int32); (v8, (uset s 63 t 1))) (y := bif m_cmp .ge v5 20 then (let v11 := bif m_cmp .gt v5 0 then (20 : Int32) else (0 : Int32); (v11, (uset s 63 t 1))) else ((v5, s))) (fun x : Int32 × SG => x.2) (by (try dsimp only); exact (Fr.uset (s1 := s) (a := 63) (j := t) (x := 1) (by rfl) (Fr.rf _ _))) (by (try dsimp only); exact (Fr.bifp (b := m_cmp .ge v5 20) (x := let v11 := bif m_cmp .gt v5 0 then (20 : Int32) else (0 : Int32); (v11, (uset s 63 t 1))) (y := (v5, s)) (fun x : Int32 × SG => x.2) (by (try dsimp only); exact (Fr.uset (s1 := s) (a := 63) (j := t) (x := 1) (by rfl) (Fr.rf _ _))) (by (try dsimp only); exact (Fr.rf _ _)))))))))
theorem ux_placeBehind_b (s : SG) (t : Nat) (p : Int32) (ht : t < 24) : UP m_X5_placeBehind 0 (m_ent 8 [.ref 58, .ref 53, .int (Int32.ofNat t), .int p]) [] s (Qb (F_placeBehind_b s t p)) := by
  refine UP.stp 3 (i1 := 3) (L1 := [some (.ref 58), some (.ref 53), some (.int (Int32.ofNat t)), some (.int p), none, none, none, none]) (st1 := [.int (Int32.ofNat t), .ref 56]) (s1 := s) rfl ?_
  refine UP.ald (e := t) rfl rfl (by omega) ?_
  show UP m_X5_placeBehind 4 [some (.ref 58), some (.ref 53), some (.int (Int32.ofNat t)), some (.int p), none, none, none, none] [.int (s 56 t)] s (Qb (F_placeBehind_b s t p))
  refine UP.stp 3 (i1 := 7) (L1 := [some (.ref 58), some (.ref 53), some (.int (Int32.ofNat t)), some (.int p), none, none, none, none]) (st1 := [.int (Int32.ofNat t), .ref 61, .int (s 56 t)]) (s1 := s) rfl ?_
  refine UP.ald (e := t) rfl rfl (by omega) ?_
  show UP m_X5_placeBehind 8 [some (.ref 58), some (.ref 53), some (.int (Int32.ofNat t)), some (.int p), none, none, none, none] [.int (s 61 t), .int (s 56 t)] s (Qb (F_placeBehind_b s t p))
  refine UP.stp 3 (i1 := 11) (L1 := [some (.ref 58), some (.ref 53), some (.int (Int32.ofNat t)), some (.int p), none, none, none, none]) (st1 := [.int (Int32.ofNat t), .ref 62, .int (s 61 t), .int (s 56 t)]) (s1 := s) rfl ?_
  refine UP.ald (e := t) rfl rfl (by omega) ?_
  show UP m_X5_placeBehind 12 [some (.ref 58), some (.ref 53), some (.int (Int32.ofNat t)), some (.int p), none, none, none, none] [.int (s 62 t), .int (s 61 t), .int (s 56 t)] s (Qb (F_placeBehind_b s t p))
  refine UP.stp 4 (i1 := 16) (L1 := [some (.ref 58), some (.ref 53), some (.int (Int32.ofNat t)), some (.int p), none, none, none, none]) (st1 := [.int (((s 56 t) * ((s 61 t) - (s 62 t))) / 6)]) (s1 := s) rfl ?_
  refine nm (G := fun v1 => UP m_X5_placeBehind 16 [some (.ref 58), some (.ref 53), some (.int (Int32.ofNat t)), some (.int p), none, none, none, none] [.int v1] s (Qb (F_placeBehind_b s t p))) (((s 56 t) * ((s 61 t) - (s 62 t))) / 6) (fun v1 e1 => ?_)
  refine UP.stp 4 (i1 := 20) (L1 := [some (.ref 58), some (.ref 53), some (.int (Int32.ofNat t)), some (.int p), some (.int v1), none, none, none]) (st1 := [.int (Int32.ofNat t), .ref 57]) (s1 := s) rfl ?_
  refine UP.ald (e := t) rfl rfl (by omega) ?_
  show UP m_X5_placeBehind 21 [some (.ref 58), some (.ref 53), some (.int (Int32.ofNat t)), some (.int p), some (.int v1), none, none, none] [.int (s 57 t)] s (Qb (F_placeBehind_b s t p))
  refine nm (G := fun v2 => UP m_X5_placeBehind 21 [some (.ref 58), some (.ref 53), some (.int (Int32.ofNat t)), some (.int p), some (.int v1), none, none, none] [.int v2] s (Qb (F_placeBehind_b s t p))) (s 57 t) (fun v2 e2 => ?_)
  refine UP.stp 3 (i1 := 24) (L1 := [some (.ref 58), some (.ref 53), some (.int (Int32.ofNat t)), some (.int p), some (.int v1), some (.int v2), none, none]) (st1 := [.int 2, .int v2]) (s1 := s) rfl ?_
  refine mrg (m_cmp .ne v2 2) (bif m_cmp .ne v2 1 then (0 : Int32) else (-1 : Int32)) (1 : Int32) (fun v4 : Int32 => UP m_X5_placeBehind 33 [some (.ref 58), some (.ref 53), some (.int (Int32.ofNat t)), some (.int p), some (.int v1), some (.int v2), none, none] [.int v4] s (Qb (F_placeBehind_b s t p))) (fun cc kk => ?_) (fun cc kk => ?_) (fun v4 e4 => ?_)
  · skip
    refine UP.icT rfl cc ?_
    refine UP.stp 2 (i1 := 29) (L1 := [some (.ref 58), some (.ref 53), some (.int (Int32.ofNat t)), some (.int p), some (.int v1), some (.int v2), none, none]) (st1 := [.int 1, .int v2]) (s1 := s) rfl ?_
    refine mrg (m_cmp .ne v2 1) (0 : Int32) (-1 : Int32) (fun v3 : Int32 => UP m_X5_placeBehind 33 [some (.ref 58), some (.ref 53), some (.int (Int32.ofNat t)), some (.int p), some (.int v1), some (.int v2), none, none] [.int v3] s (Qb (F_placeBehind_b s t p))) (fun cc kk => ?_) (fun cc kk => ?_) (fun v3 e3 => ?_)
    · skip
      refine UP.icT rfl cc ?_
      refine UP.stp 1 (i1 := 33) (L1 := [some (.ref 58), some (.ref 53), some (.int (Int32.ofNat t)), some (.int p), some (.int v1), some (.int v2), none, none]) (st1 := [.int 0]) (s1 := s) rfl ?_
      exact kk
    · skip
      refine UP.icF rfl cc ?_
      refine UP.stp 2 (i1 := 33) (L1 := [some (.ref 58), some (.ref 53), some (.int (Int32.ofNat t)), some (.int p), some (.int v1), some (.int v2), none, none]) (st1 := [.int (-1)]) (s1 := s) rfl ?_
      exact kk
    subst e3
    exact kk
  · skip
    refine UP.icF rfl cc ?_
    refine UP.stp 2 (i1 := 33) (L1 := [some (.ref 58), some (.ref 53), some (.int (Int32.ofNat t)), some (.int p), some (.int v1), some (.int v2), none, none]) (st1 := [.int 1]) (s1 := s) rfl ?_
    exact kk
  refine UP.stp 9 (i1 := 42) (L1 := [some (.ref 58), some (.ref 53), some (.int (Int32.ofNat t)), some (.int p), some (.int v1), some (.int v2), some (.int v4), none]) (st1 := [.int (Int32.ofNat t), .ref 94, .int ((p + v1) + v4)]) (s1 := s) rfl ?_
  refine UP.ald (e := t) rfl rfl (by omega) ?_
  show UP m_X5_placeBehind 43 [some (.ref 58), some (.ref 53), some (.int (Int32.ofNat t)), some (.int p), some (.int v1), some (.int v2), some (.int v4), none] [.int (s 94 t), .int ((p + v1) + v4)] s (Qb (F_placeBehind_b s t p))
  refine UP.stp 1 (i1 := 44) (L1 := [some (.ref 58), some (.ref 53), some (.int (Int32.ofNat t)), some (.int p), some (.int v1), some (.int v2), some (.int v4), none]) (st1 := [.int (((p + v1) + v4) + (s 94 t))]) (s1 := s) rfl ?_
  refine nm (G := fun v5 => UP m_X5_placeBehind 44 [some (.ref 58), some (.ref 53), some (.int (Int32.ofNat t)), some (.int p), some (.int v1), some (.int v2), some (.int v4), none] [.int v5] s (Qb (F_placeBehind_b s t p))) (((p + v1) + v4) + (s 94 t)) (fun v5 e5 => ?_)
  refine UP.stp 2 (i1 := 46) (L1 := [some (.ref 58), some (.ref 53), some (.int (Int32.ofNat t)), some (.int p), some (.int v1), some (.int v2), some (.int v4), some (.int v5)]) (st1 := [.int v5]) (s1 := s) rfl ?_
  refine UP.spl (m_cmp .le v5 0) (let v8 := bif m_cmp .gt v5 0 then (20 : Int32) else (0 : Int32); (v8, (uset s 63 t 1))) (bif m_cmp .ge v5 20 then (let v11 := bif m_cmp .gt v5 0 then (20 : Int32) else (0 : Int32); (v11, (uset s 63 t 1))) else ((v5, s))) (by subst e5 e4 e2 e1; first | (dsimp only [F_placeBehind_b]; done) | (dsimp only; done) | rfl) (fun cc => ?_) (fun cc => ?_)
  · skip
    refine UP.ifT rfl cc ?_
    refine UP.stp 4 (i1 := 56) (L1 := [some (.ref 58), some (.ref 53), some (.int (Int32.ofNat t)), some (.int p), some (.int v1), some (.int v2), some (.int v4), some (.int v5)]) (st1 := [.int 1, .int (Int32.ofNat t), .ref 63]) (s1 := s) rfl ?_
    refine UP.ast (e := t) rfl rfl (by omega) ?_
    show UP m_X5_placeBehind 57 [some (.ref 58), some (.ref 53), some (.int (Int32.ofNat t)), some (.int p), some (.int v1), some (.int v2), some (.int v4), some (.int v5)] [] (uset s 63 t 1) (Qb (let v8 := bif m_cmp .gt v5 0 then (20 : Int32) else (0 : Int32); (v8, (uset s 63 t 1))))
    refine UP.stp 1 (i1 := 58) (L1 := [some (.ref 58), some (.ref 53), some (.int (Int32.ofNat t)), some (.int p), some (.int v1), some (.int v2), some (.int v4), some (.int v5)]) (st1 := [.int v5]) (s1 := (uset s 63 t 1)) rfl ?_
    refine mrg (m_cmp .gt v5 0) (20 : Int32) (0 : Int32) (fun v8 : Int32 => UP m_X5_placeBehind 62 [some (.ref 58), some (.ref 53), some (.int (Int32.ofNat t)), some (.int p), some (.int v1), some (.int v2), some (.int v4), some (.int v5)] [.int v8] (uset s 63 t 1) (Qb (let v8 := bif m_cmp .gt v5 0 then (20 : Int32) else (0 : Int32); (v8, (uset s 63 t 1))))) (fun cc kk => ?_) (fun cc kk => ?_) (fun v8 e8 => ?_)
    · skip
      refine UP.ifT rfl cc ?_
      refine UP.stp 1 (i1 := 62) (L1 := [some (.ref 58), some (.ref 53), some (.int (Int32.ofNat t)), some (.int p), some (.int v1), some (.int v2), some (.int v4), some (.int v5)]) (st1 := [.int 20]) (s1 := (uset s 63 t 1)) rfl ?_
      exact kk
    · skip
      refine UP.ifF rfl cc ?_
      refine UP.stp 2 (i1 := 62) (L1 := [some (.ref 58), some (.ref 53), some (.int (Int32.ofNat t)), some (.int p), some (.int v1), some (.int v2), some (.int v4), some (.int v5)]) (st1 := [.int 0]) (s1 := (uset s 63 t 1)) rfl ?_
      exact kk
    exact UP.ret (r := some (.int v8)) rfl ⟨by subst e8 e5 e4 e2 e1; first | (dsimp only [F_placeBehind_b]; done) | (dsimp only; done) | rfl, by subst e8 e5 e4 e2 e1; first | (dsimp only [F_placeBehind_b]; done) | (dsimp only; done) | rfl⟩
  · skip
    refine UP.ifF rfl cc ?_
    refine UP.stp 2 (i1 := 49) (L1 := [some (.ref 58), some (.ref 53), some (.int (Int32.ofNat t)), some (.int p), some (.int v1), some (.int v2), some (.int v4), some (.int v5)]) (st1 := [.int 20, .int v5]) (s1 := s) rfl ?_
    refine UP.spl (m_cmp .ge v5 20) (let v11 := bif m_cmp .gt v5 0 then (20 : Int32) else (0 : Int32); (v11, (uset s 63 t 1))) ((v5, s)) (by subst e5 e4 e2 e1; first | (dsimp only [F_placeBehind_b]; done) | (dsimp only; done) | rfl) (fun cc => ?_) (fun cc => ?_)
    · skip
      refine UP.icT rfl cc ?_
      refine UP.stp 4 (i1 := 56) (L1 := [some (.ref 58), some (.ref 53), some (.int (Int32.ofNat t)), some (.int p), some (.int v1), some (.int v2), some (.int v4), some (.int v5)]) (st1 := [.int 1, .int (Int32.ofNat t), .ref 63]) (s1 := s) rfl ?_
      refine UP.ast (e := t) rfl rfl (by omega) ?_
      show UP m_X5_placeBehind 57 [some (.ref 58), some (.ref 53), some (.int (Int32.ofNat t)), some (.int p), some (.int v1), some (.int v2), some (.int v4), some (.int v5)] [] (uset s 63 t 1) (Qb (let v11 := bif m_cmp .gt v5 0 then (20 : Int32) else (0 : Int32); (v11, (uset s 63 t 1))))
      refine UP.stp 1 (i1 := 58) (L1 := [some (.ref 58), some (.ref 53), some (.int (Int32.ofNat t)), some (.int p), some (.int v1), some (.int v2), some (.int v4), some (.int v5)]) (st1 := [.int v5]) (s1 := (uset s 63 t 1)) rfl ?_
      refine mrg (m_cmp .gt v5 0) (20 : Int32) (0 : Int32) (fun v11 : Int32 => UP m_X5_placeBehind 62 [some (.ref 58), some (.ref 53), some (.int (Int32.ofNat t)), some (.int p), some (.int v1), some (.int v2), some (.int v4), some (.int v5)] [.int v11] (uset s 63 t 1) (Qb (let v11 := bif m_cmp .gt v5 0 then (20 : Int32) else (0 : Int32); (v11, (uset s 63 t 1))))) (fun cc kk => ?_) (fun cc kk => ?_) (fun v11 e11 => ?_)
      · skip
        refine UP.ifT rfl cc ?_
        refine UP.stp 1 (i1 := 62) (L1 := [some (.ref 58), some (.ref 53), some (.int (Int32.ofNat t)), some (.int p), some (.int v1), some (.int v2), some (.int v4), some (.int v5)]) (st1 := [.int 20]) (s1 := (uset s 63 t 1)) rfl ?_
        exact kk
      · skip
        refine UP.ifF rfl cc ?_
        refine UP.stp 2 (i1 := 62) (L1 := [some (.ref 58), some (.ref 53), some (.int (Int32.ofNat t)), some (.int p), some (.int v1), some (.int v2), some (.int v4), some (.int v5)]) (st1 := [.int 0]) (s1 := (uset s 63 t 1)) rfl ?_
        exact kk
      exact UP.ret (r := some (.int v11)) rfl ⟨by subst e11 e5 e4 e2 e1; first | (dsimp only [F_placeBehind_b]; done) | (dsimp only; done) | rfl, by subst e11 e5 e4 e2 e1; first | (dsimp only [F_placeBehind_b]; done) | (dsimp only; done) | rfl⟩
    · skip
      refine UP.icF rfl cc ?_
      refine UP.stp 1 (i1 := 51) (L1 := [some (.ref 58), some (.ref 53), some (.int (Int32.ofNat t)), some (.int p), some (.int v1), some (.int v2), some (.int v4), some (.int v5)]) (st1 := [.int v5]) (s1 := s) rfl ?_
      exact UP.ret (r := some (.int v5)) rfl ⟨by subst e5 e4 e2 e1; first | (dsimp only [F_placeBehind_b]; done) | (dsimp only; done) | rfl, by subst e5 e4 e2 e1; first | (dsimp only [F_placeBehind_b]; done) | (dsimp only; done) | rfl⟩
def W_metresIn_b : List (Nat × Nat × Option Nat) := []
def F_metresIn_b (s : SG) (t : Nat) : Int32 := let v1 := ((s 61 t) + (s 62 t)) / 2; let v2 := (((s 56 t) * v1) + (s 53 5)) + (s 95 t); let v3 := bif m_cmp .ne (s 63 t) 1 then v2 else v2 / 2; v3
theorem ux_metresIn_b (s : SG) (t : Nat) (ht : t < 24) : UP m_X5_metresIn 0 (m_ent 5 [.ref 58, .ref 53, .int (Int32.ofNat t)]) [] s (Qi s (F_metresIn_b s t)) := by
  refine UP.stp 3 (i1 := 3) (L1 := [some (.ref 58), some (.ref 53), some (.int (Int32.ofNat t)), none, none]) (st1 := [.int (Int32.ofNat t), .ref 61]) (s1 := s) rfl ?_
  refine UP.ald (e := t) rfl rfl (by omega) ?_
  show UP m_X5_metresIn 4 [some (.ref 58), some (.ref 53), some (.int (Int32.ofNat t)), none, none] [.int (s 61 t)] s (Qi s (F_metresIn_b s t))
  refine UP.stp 3 (i1 := 7) (L1 := [some (.ref 58), some (.ref 53), some (.int (Int32.ofNat t)), none, none]) (st1 := [.int (Int32.ofNat t), .ref 62, .int (s 61 t)]) (s1 := s) rfl ?_
  refine UP.ald (e := t) rfl rfl (by omega) ?_
  show UP m_X5_metresIn 8 [some (.ref 58), some (.ref 53), some (.int (Int32.ofNat t)), none, none] [.int (s 62 t), .int (s 61 t)] s (Qi s (F_metresIn_b s t))
  refine UP.stp 3 (i1 := 11) (L1 := [some (.ref 58), some (.ref 53), some (.int (Int32.ofNat t)), none, none]) (st1 := [.int (((s 61 t) + (s 62 t)) / 2)]) (s1 := s) rfl ?_
  refine nm (G := fun v1 => UP m_X5_metresIn 11 [some (.ref 58), some (.ref 53), some (.int (Int32.ofNat t)), none, none] [.int v1] s (Qi s (F_metresIn_b s t))) (((s 61 t) + (s 62 t)) / 2) (fun v1 e1 => ?_)
  refine UP.stp 4 (i1 := 15) (L1 := [some (.ref 58), some (.ref 53), some (.int (Int32.ofNat t)), some (.int v1), none]) (st1 := [.int (Int32.ofNat t), .ref 56]) (s1 := s) rfl ?_
  refine UP.ald (e := t) rfl rfl (by omega) ?_
  show UP m_X5_metresIn 16 [some (.ref 58), some (.ref 53), some (.int (Int32.ofNat t)), some (.int v1), none] [.int (s 56 t)] s (Qi s (F_metresIn_b s t))
  refine UP.stp 8 (i1 := 24) (L1 := [some (.ref 58), some (.ref 53), some (.int (Int32.ofNat t)), some (.int v1), none]) (st1 := [.int (Int32.ofNat t), .ref 95, .int (((s 56 t) * v1) + (s 53 5))]) (s1 := s) rfl ?_
  refine UP.ald (e := t) rfl rfl (by omega) ?_
  show UP m_X5_metresIn 25 [some (.ref 58), some (.ref 53), some (.int (Int32.ofNat t)), some (.int v1), none] [.int (s 95 t), .int (((s 56 t) * v1) + (s 53 5))] s (Qi s (F_metresIn_b s t))
  refine UP.stp 1 (i1 := 26) (L1 := [some (.ref 58), some (.ref 53), some (.int (Int32.ofNat t)), some (.int v1), none]) (st1 := [.int ((((s 56 t) * v1) + (s 53 5)) + (s 95 t))]) (s1 := s) rfl ?_
  refine nm (G := fun v2 => UP m_X5_metresIn 26 [some (.ref 58), some (.ref 53), some (.int (Int32.ofNat t)), some (.int v1), none] [.int v2] s (Qi s (F_metresIn_b s t))) ((((s 56 t) * v1) + (s 53 5)) + (s 95 t)) (fun v2 e2 => ?_)
  refine UP.stp 4 (i1 := 30) (L1 := [some (.ref 58), some (.ref 53), some (.int (Int32.ofNat t)), some (.int v1), some (.int v2)]) (st1 := [.int (Int32.ofNat t), .ref 63]) (s1 := s) rfl ?_
  refine UP.ald (e := t) rfl rfl (by omega) ?_
  show UP m_X5_metresIn 31 [some (.ref 58), some (.ref 53), some (.int (Int32.ofNat t)), some (.int v1), some (.int v2)] [.int (s 63 t)] s (Qi s (F_metresIn_b s t))
  refine UP.stp 1 (i1 := 32) (L1 := [some (.ref 58), some (.ref 53), some (.int (Int32.ofNat t)), some (.int v1), some (.int v2)]) (st1 := [.int 1, .int (s 63 t)]) (s1 := s) rfl ?_
  refine mrg (m_cmp .ne (s 63 t) 1) v2 (v2 / 2) (fun v3 : Int32 => UP m_X5_metresIn 38 [some (.ref 58), some (.ref 53), some (.int (Int32.ofNat t)), some (.int v1), some (.int v2)] [.int v3] s (Qi s (F_metresIn_b s t))) (fun cc kk => ?_) (fun cc kk => ?_) (fun v3 e3 => ?_)
  · skip
    refine UP.icT rfl cc ?_
    refine UP.stp 1 (i1 := 38) (L1 := [some (.ref 58), some (.ref 53), some (.int (Int32.ofNat t)), some (.int v1), some (.int v2)]) (st1 := [.int v2]) (s1 := s) rfl ?_
    exact kk
  · skip
    refine UP.icF rfl cc ?_
    refine UP.stp 4 (i1 := 38) (L1 := [some (.ref 58), some (.ref 53), some (.int (Int32.ofNat t)), some (.int v1), some (.int v2)]) (st1 := [.int (v2 / 2)]) (s1 := s) rfl ?_
    exact kk
  exact UP.ret (r := some (.int v3)) rfl ⟨by subst e3 e2 e1; first | (dsimp only [F_metresIn_b]; done) | (dsimp only; done) | rfl, by subst e3 e2 e1; first | (dsimp only [F_metresIn_b]; done) | (dsimp only; done) | rfl⟩
def W_row_b : List (Nat × Nat × Option Nat) := [(59, 63, none), (65, 88, none), (89, 95, none), (58, 58, some 8)]
def B_row_b_16  (i3 : Nat) (a3 : SG × Int32 × Int32) : SG × Int32 × Int32 := let z4 := F_pullAll_b (uset a3.1 63 i3 0) i3; let w9 := bif m_cmp .ne (z4 58 8) (-1) then (a3.2.1, a3.2.2, z4) else ((a3.2.1 + (F_metresIn_b (F_placeBehind_b z4 i3 a3.2.2).2 i3)), (F_placeBehind_b z4 i3 a3.2.2).1, (bif m_cmp .lt (a3.2.1 + (F_metresIn_b (F_placeBehind_b z4 i3 a3.2.2).2 i3)) ((F_placeBehind_b z4 i3 a3.2.2).2 53 6) then (F_placeBehind_b z4 i3 a3.2.2).2 else (uset (F_placeBehind_b z4 i3 a3.2.2).2 58 8 (Int32.ofNat i3)))); ((uset (uset w9.2.2 59 i3 w9.1) 60 i3 w9.2.1), w9.1, w9.2.1)
theorem fr_B_row_b_16  (i3 : Nat) (a3 : SG × Int32 × Int32)  (hi3 : i3 < 24) : Fr W_row_b a3.1 ((B_row_b_16) i3 a3).1 := by dsimp only [B_row_b_16]; exact (let z4 : SG := F_pullAll_b (uset a3.1 63 i3 0) i3; (let w9 : Int32 × Int32 × SG := bif m_cmp .ne (z4 58 8) (-1) then (a3.2.1, a3.2.2, z4) else ((a3.2.1 + (F_metresIn_b (F_placeBehind_b z4 i3 a3.2.2).2 i3)), (F_placeBehind_b z4 i3 a3.2.2).1, (bif m_cmp .lt (a3.2.1 + (F_metresIn_b (F_placeBehind_b z4 i3 a3.2.2).2 i3)) ((F_placeBehind_b z4 i3 a3.2.2).2 53 6) then (F_placeBehind_b z4 i3 a3.2.2).2 else (uset (F_placeBehind_b z4 i3 a3.2.2).2 58 8 (Int32.ofNat i3)))); (Fr.uset (s1 := (uset w9.2.2 59 i3 w9.1)) (a := 60) (j := i3) (x := w9.2.1) (by rfl) (Fr.uset (s1 := w9.2.2) (a := 59) (j := i3) (x := w9.1) (by rfl) (Fr.bifp (b := m_cmp .ne (z4 58 8) (-1)) (x := (a3.2.1, a3.2.2, z4)) (y := ((a3.2.1 + (F_metresIn_b (F_placeBehind_b z4 i3 a3.2.2).2 i3)), (F_placeBehind_b z4 i3 a3.2.2).1, (bif m_cmp .lt (a3.2.1 + (F_metresIn_b (F_placeBehind_b z4 i3 a3.2.2).2 i3)) ((F_placeBehind_b z4 i3 a3.2.2).2 53 6) then (F_placeBehind_b z4 i3 a3.2.2).2 else (uset (F_placeBehind_b z4 i3 a3.2.2).2 58 8 (Int32.ofNat i3))))) (fun x : Int32 × Int32 × SG => x.2.2) (by (try dsimp only); exact (Fr.tr (s1 := (uset a3.1 63 i3 0)) (Fr.uset (s1 := a3.1) (a := 63) (j := i3) (x := 0) (by rfl) (Fr.rf _ _)) (Fr.wk (W2 := W_row_b) (fr_pullAll_b (uset a3.1 63 i3 0) i3 hi3) (by rfl)))) (by (try dsimp only); exact (Fr.bif (b := m_cmp .lt (a3.2.1 + (F_metresIn_b (F_placeBehind_b z4 i3 a3.2.2).2 i3)) ((F_placeBehind_b z4 i3 a3.2.2).2 53 6)) (s1 := (F_placeBehind_b z4 i3 a3.2.2).2) (s2 := (uset (F_placeBehind_b z4 i3 a3.2.2).2 58 8 (Int32.ofNat i3))) (Fr.tr (s1 := z4) (Fr.tr (s1 := (uset a3.1 63 i3 0)) (Fr.uset (s1 := a3.1) (a := 63) (j := i3) (x := 0) (by rfl) (Fr.rf _ _)) (Fr.wk (W2 := W_row_b) (fr_pullAll_b (uset a3.1 63 i3 0) i3 hi3) (by rfl))) (Fr.wk (W2 := W_row_b) (fr_placeBehind_b z4 i3 a3.2.2) (by rfl))) (Fr.uset (s1 := (F_placeBehind_b z4 i3 a3.2.2).2) (a := 58) (j := 8) (x := Int32.ofNat i3) (by rfl) (Fr.tr (s1 := z4) (Fr.tr (s1 := (uset a3.1 63 i3 0)) (Fr.uset (s1 := a3.1) (a := 63) (j := i3) (x := 0) (by rfl) (Fr.rf _ _)) (Fr.wk (W2 := W_row_b) (fr_pullAll_b (uset a3.1 63 i3 0) i3 hi3) (by rfl))) (Fr.wk (W2 := W_row_b) (fr_placeBehind_b z4 i3 a3.2.2) (by rfl)))))))))))
def F_row_b (s : SG) (mask : Int32) : SG := let z1 := F_takeEvents_b s mask; let z2 := F_takeRowers_b z1 ; let z3 := itr (B_row_b_16) 0 24 ((uset z2 58 8 (-1)), 0, 10); z3.1
theorem fr_row_b (s : SG) (mask : Int32)  : Fr W_row_b s (F_row_b s mask) := by dsimp only [F_row_b]; exact (let z1 : SG := F_takeEvents_b s mask; (let z2 : SG := F_takeRowers_b z1 ; (frItrB (W := W_row_b) (m := (fun x : SG × Int32 × Int32 => x.1)) (f := (B_row_b_16)) 24 (fun ii aa hh => Fr.wk (W2 := W_row_b) (fr_B_row_b_16  ii aa  hh) (by rfl)) 24 0 ((uset z2 58 8 (-1)), 0, 10) (by omega) (Fr.uset (s1 := z2) (a := 58) (j := 8) (x := (-1)) (by rfl) (Fr.tr (s1 := z1) (Fr.tr (s1 := s) (Fr.rf _ _) (Fr.wk (W2 := W_row_b) (fr_takeEvents_b s mask) (by rfl))) (Fr.wk (W2 := W_row_b) (fr_takeRowers_b z1 ) (by rfl)))))))
theorem ux_row_b (s : SG) (mask : Int32)  : UP m_X5_row 0 (m_ent 7 [.ref 58, .ref 53, .ref 2, .int mask]) [] s (Qv (F_row_b s mask)) := by
  refine UP.stp 3 (i1 := 3) (L1 := [some (.ref 58), some (.ref 53), some (.ref 2), some (.int mask), none, none, none]) (st1 := [.int mask, .ref 2, .ref 58]) (s1 := s) rfl ?_
  refine UP.cV (M1 := m_X5_takeEvents) (as := [.ref 58, .ref 2, .int mask]) (rest := []) (T := F_takeEvents_b s mask) rfl rfl (ux_takeEvents_b s mask) (fun z1 e1 => ?_)
  refine UP.stp 2 (i1 := 6) (L1 := [some (.ref 58), some (.ref 53), some (.ref 2), some (.int mask), none, none, none]) (st1 := [.ref 53, .ref 58]) (s1 := z1) rfl ?_
  refine UP.cV (M1 := m_X5_takeRowers) (as := [.ref 58, .ref 53]) (rest := []) (T := F_takeRowers_b z1 ) rfl rfl (ux_takeRowers_b z1) (fun z2 e2 => ?_)
  refine UP.stp 9 (i1 := 16) (L1 := [some (.ref 58), some (.ref 53), some (.ref 2), some (.int mask), some (.int 0), some (.int 10), some (.int 0)]) (st1 := []) (s1 := (uset z2 58 8 (-1))) rfl ?_
  refine lp (fun (i3 : Nat) (a3 : SG × Int32 × Int32) => ∀ (u3_2 : Option Value) (u3_3 : Option Value), UP m_X5_row 16 [some (.ref 58), some (.ref 53), u3_2, u3_3, some (.int a3.2.1), some (.int a3.2.2), some (.int (Int32.ofNat i3))] [] a3.1 (Qv (F_row_b s mask))) (fun (_ : Nat) (a3 : SG × Int32 × Int32) => Fr W_row_b (uset z2 58 8 (-1)) a3.1) (B_row_b_16) (24) (fun i3 a3 hi3 g3 => g3.tr (fr_B_row_b_16  i3 a3 hi3)) (fun i3 a3 hi3 g3 kk => ?_) 24 (0) ((uset z2 58 8 (-1)), 0, 10) (by  omega) (Fr.rf _ _) (fun z3 e3 g3 => ?_) (some (.ref 2)) (some (.int mask))
  · skip
    intro u3_2 u3_3
    refine UP.stp 2 (i1 := 18) (L1 := [some (.ref 58), some (.ref 53), u3_2, u3_3, some (.int a3.2.1), some (.int a3.2.2), some (.int (Int32.ofNat i3))]) (st1 := [.int 24, .int (Int32.ofNat i3)]) (s1 := a3.1) rfl ?_
    refine UP.icF rfl (ge_F (show i3 < (24 : Int32).toNatClampNeg from hi3)) ?_
    refine UP.stp 4 (i1 := 23) (L1 := [some (.ref 58), some (.ref 53), u3_2, u3_3, some (.int a3.2.1), some (.int a3.2.2), some (.int (Int32.ofNat i3))]) (st1 := [.int 0, .int (Int32.ofNat i3), .ref 63]) (s1 := a3.1) rfl ?_
    refine UP.ast (e := i3) rfl rfl (by omega) ?_
    show UP m_X5_row 24 [some (.ref 58), some (.ref 53), u3_2, u3_3, some (.int a3.2.1), some (.int a3.2.2), some (.int (Int32.ofNat i3))] [] (uset a3.1 63 i3 0) (Qv (F_row_b s mask))
    refine UP.stp 3 (i1 := 27) (L1 := [some (.ref 58), some (.ref 53), u3_2, u3_3, some (.int a3.2.1), some (.int a3.2.2), some (.int (Int32.ofNat i3))]) (st1 := [.int (Int32.ofNat i3), .ref 53, .ref 58]) (s1 := (uset a3.1 63 i3 0)) rfl ?_
    refine UP.cV (M1 := m_X5_pullAll) (as := [.ref 58, .ref 53, .int (Int32.ofNat i3)]) (rest := []) (T := F_pullAll_b (uset a3.1 63 i3 0) i3) rfl rfl (ux_pullAll_b (uset a3.1 63 i3 0) i3 hi3) (fun z4 e4 => ?_)
    refine UP.stp 3 (i1 := 31) (L1 := [some (.ref 58), some (.ref 53), u3_2, u3_3, some (.int a3.2.1), some (.int a3.2.2), some (.int (Int32.ofNat i3))]) (st1 := [.int (-1), .int (z4 58 8)]) (s1 := z4) rfl ?_
    refine mrg (m_cmp .ne (z4 58 8) (-1)) (a3.2.1, a3.2.2, z4) ((a3.2.1 + (F_metresIn_b (F_placeBehind_b z4 i3 a3.2.2).2 i3)), (F_placeBehind_b z4 i3 a3.2.2).1, (bif m_cmp .lt (a3.2.1 + (F_metresIn_b (F_placeBehind_b z4 i3 a3.2.2).2 i3)) ((F_placeBehind_b z4 i3 a3.2.2).2 53 6) then (F_placeBehind_b z4 i3 a3.2.2).2 else (uset (F_placeBehind_b z4 i3 a3.2.2).2 58 8 (Int32.ofNat i3)))) (fun w9 : Int32 × Int32 × SG => UP m_X5_row 52 [some (.ref 58), some (.ref 53), u3_2, u3_3, some (.int w9.1), some (.int w9.2.1), some (.int (Int32.ofNat i3))] [] w9.2.2 (Qv (F_row_b s mask))) (fun cc kk => ?_) (fun cc kk => ?_) (fun w9 e9 => ?_)
    · skip
      refine UP.icT rfl cc ?_
      exact kk
    · skip
      refine UP.icF rfl cc ?_
      refine UP.stp 4 (i1 := 36) (L1 := [some (.ref 58), some (.ref 53), u3_2, u3_3, some (.int a3.2.1), some (.int a3.2.2), some (.int (Int32.ofNat i3))]) (st1 := [.int a3.2.2, .int (Int32.ofNat i3), .ref 53, .ref 58]) (s1 := z4) rfl ?_
      refine UP.cB (M1 := m_X5_placeBehind) (as := [.ref 58, .ref 53, .int (Int32.ofNat i3), .int a3.2.2]) (rest := []) (T := F_placeBehind_b z4 i3 a3.2.2) rfl rfl (ux_placeBehind_b z4 i3 a3.2.2 hi3) (fun z5 e5 => ?_)
      refine UP.stp 5 (i1 := 42) (L1 := [some (.ref 58), some (.ref 53), u3_2, u3_3, some (.int a3.2.1), some (.int z5.1), some (.int (Int32.ofNat i3))]) (st1 := [.int (Int32.ofNat i3), .ref 53, .ref 58, .int a3.2.1]) (s1 := z5.2) rfl ?_
      refine UP.cI (M1 := m_X5_metresIn) (as := [.ref 58, .ref 53, .int (Int32.ofNat i3)]) (rest := [.int a3.2.1]) (T := F_metresIn_b z5.2 i3) rfl rfl (ux_metresIn_b z5.2 i3 hi3) ?_
      refine UP.stp 1 (i1 := 44) (L1 := [some (.ref 58), some (.ref 53), u3_2, u3_3, some (.int a3.2.1), some (.int z5.1), some (.int (Int32.ofNat i3))]) (st1 := [.int (a3.2.1 + (F_metresIn_b z5.2 i3))]) (s1 := z5.2) rfl ?_
      refine nm (G := fun v7 => UP m_X5_row 44 [some (.ref 58), some (.ref 53), u3_2, u3_3, some (.int a3.2.1), some (.int z5.1), some (.int (Int32.ofNat i3))] [.int v7] z5.2 (Qv (F_row_b s mask))) (a3.2.1 + (F_metresIn_b z5.2 i3)) (fun v7 e7 => ?_)
      refine UP.stp 4 (i1 := 48) (L1 := [some (.ref 58), some (.ref 53), u3_2, u3_3, some (.int v7), some (.int z5.1), some (.int (Int32.ofNat i3))]) (st1 := [.int (z5.2 53 6), .int v7]) (s1 := z5.2) rfl ?_
      refine mrg (m_cmp .lt v7 (z5.2 53 6)) z5.2 (uset z5.2 58 8 (Int32.ofNat i3)) (fun v8 : SG => UP m_X5_row 52 [some (.ref 58), some (.ref 53), u3_2, u3_3, some (.int v7), some (.int z5.1), some (.int (Int32.ofNat i3))] [] v8 (Qv (F_row_b s mask))) (fun cc kk => ?_) (fun cc kk => ?_) (fun v8 e8 => ?_)
      · skip
        refine UP.icT rfl cc ?_
        exact kk
      · skip
        refine UP.icF rfl cc ?_
        refine UP.stp 3 (i1 := 52) (L1 := [some (.ref 58), some (.ref 53), u3_2, u3_3, some (.int v7), some (.int z5.1), some (.int (Int32.ofNat i3))]) (st1 := []) (s1 := (uset z5.2 58 8 (Int32.ofNat i3))) rfl ?_
        exact kk
      subst e8 e7 e5
      exact kk
    refine UP.stp 4 (i1 := 56) (L1 := [some (.ref 58), some (.ref 53), u3_2, u3_3, some (.int w9.1), some (.int w9.2.1), some (.int (Int32.ofNat i3))]) (st1 := [.int w9.1, .int (Int32.ofNat i3), .ref 59]) (s1 := w9.2.2) rfl ?_
    refine UP.ast (e := i3) rfl rfl (by omega) ?_
    show UP m_X5_row 57 [some (.ref 58), some (.ref 53), u3_2, u3_3, some (.int w9.1), some (.int w9.2.1), some (.int (Int32.ofNat i3))] [] (uset w9.2.2 59 i3 w9.1) (Qv (F_row_b s mask))
    refine UP.stp 4 (i1 := 61) (L1 := [some (.ref 58), some (.ref 53), u3_2, u3_3, some (.int w9.1), some (.int w9.2.1), some (.int (Int32.ofNat i3))]) (st1 := [.int w9.2.1, .int (Int32.ofNat i3), .ref 60]) (s1 := (uset w9.2.2 59 i3 w9.1)) rfl ?_
    refine UP.ast (e := i3) rfl rfl (by omega) ?_
    show UP m_X5_row 62 [some (.ref 58), some (.ref 53), u3_2, u3_3, some (.int w9.1), some (.int w9.2.1), some (.int (Int32.ofNat i3))] [] (uset (uset w9.2.2 59 i3 w9.1) 60 i3 w9.2.1) (Qv (F_row_b s mask))
    refine UP.stp 2 (i1 := 16) (L1 := [some (.ref 58), some (.ref 53), u3_2, u3_3, some (.int w9.1), some (.int w9.2.1), some (.int ((Int32.ofNat i3) + 1))]) (st1 := []) (s1 := (uset (uset w9.2.2 59 i3 w9.1) 60 i3 w9.2.1)) rfl ?_
    subst e9 e4
    rw [ofn_s]
    try dsimp only [B_row_b_16] at kk
    exact kk _ _
  intro u3_2 u3_3
  refine UP.stp 2 (i1 := 18) (L1 := [some (.ref 58), some (.ref 53), u3_2, u3_3, some (.int z3.2.1), some (.int z3.2.2), some (.int (Int32.ofNat 24))]) (st1 := [.int 24, .int (Int32.ofNat 24)]) (s1 := z3.1) rfl ?_
  refine UP.icT rfl (ge_T (24 : Int32)) ?_
  exact UP.ret (r := none) rfl ⟨by subst e3 e2 e1; first | (dsimp only [F_row_b]; done) | (dsimp only; done) | rfl, by subst e3 e2 e1; first | (dsimp only [F_row_b]; done) | (dsimp only; done) | rfl⟩
def W_takeRowers_c : List (Nat × Nat × Option Nat) := [(89, 92, none)]
def B_takeRowers_c_2  (i1 : Nat) (a1 : SG) : SG := let v2 := a1 11 i1; let v3 := a1 12 i1; let v5 := bif m_cmp .ne v2 1 then (bif m_cmp .ne v2 2 then v3 else v3 - 1) else v3 + 2; let v7 := bif m_cmp .ne v2 1 then (bif m_cmp .ne v2 2 then v3 else v3 + 1) else v3 - 1; (uset (uset (uset (uset a1 91 i1 v5) 92 i1 v7) 89 i1 0) 90 i1 0)
theorem fr_B_takeRowers_c_2  (i1 : Nat) (a1 : SG)   : Fr W_takeRowers_c a1 ((B_takeRowers_c_2) i1 a1) := by dsimp only [B_takeRowers_c_2]; exact (let v2 : Int32 := a1 11 i1; (let v3 : Int32 := a1 12 i1; (let v5 : Int32 := bif m_cmp .ne v2 1 then (bif m_cmp .ne v2 2 then v3 else v3 - 1) else v3 + 2; (let v7 : Int32 := bif m_cmp .ne v2 1 then (bif m_cmp .ne v2 2 then v3 else v3 + 1) else v3 - 1; (Fr.uset (s1 := (uset (uset (uset a1 91 i1 v5) 92 i1 v7) 89 i1 0)) (a := 90) (j := i1) (x := 0) (by rfl) (Fr.uset (s1 := (uset (uset a1 91 i1 v5) 92 i1 v7)) (a := 89) (j := i1) (x := 0) (by rfl) (Fr.uset (s1 := (uset a1 91 i1 v5)) (a := 92) (j := i1) (x := v7) (by rfl) (Fr.uset (s1 := a1) (a := 91) (j := i1) (x := v5) (by rfl) (Fr.rf _ _)))))))))
def F_takeRowers_c (s : SG)  : SG := let z1 := itr (B_takeRowers_c_2) 0 ((s 10 0).toNatClampNeg) s; z1
theorem fr_takeRowers_c (s : SG)   : Fr W_takeRowers_c s (F_takeRowers_c s) := by dsimp only [F_takeRowers_c]; exact (Fr.itr (W := W_takeRowers_c) (m := (fun x : SG => x)) (f := (B_takeRowers_c_2)) (fun ii aa => Fr.wk (W2 := W_takeRowers_c) (fr_B_takeRowers_c_2  ii aa ) (by rfl)) ((s 10 0).toNatClampNeg) 0 s (Fr.rf _ _))
theorem ux_takeRowers_c (s : SG)   : UP m_X5_takeRowers 0 (m_ent 5 [.ref 58, .ref 10]) [] s (Qv (F_takeRowers_c s)) := by
  refine UP.stp 2 (i1 := 2) (L1 := [some (.ref 58), some (.ref 10), some (.int 0), none, none]) (st1 := []) (s1 := s) rfl ?_
  refine lp (fun (i1 : Nat) (a1 : SG) => ∀ (u1_3 : Option Value) (u1_4 : Option Value), UP m_X5_takeRowers 2 [some (.ref 58), some (.ref 10), some (.int (Int32.ofNat i1)), u1_3, u1_4] [] a1 (Qv (F_takeRowers_c s))) (fun (_ : Nat) (a1 : SG) => Fr W_takeRowers_c s a1) (B_takeRowers_c_2) ((s 10 0).toNatClampNeg) (fun i1 a1 hi1 g1 => g1.tr (fr_B_takeRowers_c_2  i1 a1 )) (fun i1 a1 hi1 g1 kk => ?_) ((s 10 0).toNatClampNeg) (0) s (by  omega) (Fr.rf _ _) (fun z1 e1 g1 => ?_) none none
  · skip
    intro u1_3 u1_4
    have hbi1 := cl_lt (s 10 0)
    refine UP.stp 3 (i1 := 5) (L1 := [some (.ref 58), some (.ref 10), some (.int (Int32.ofNat i1)), u1_3, u1_4]) (st1 := [.int (a1 10 0), .int (Int32.ofNat i1)]) (s1 := a1) rfl ?_
    refine UP.icF rfl (by rw [(g1 10 0 rfl)]; exact ge_F hi1) ?_
    refine UP.stp 3 (i1 := 9) (L1 := [some (.ref 58), some (.ref 10), some (.int (Int32.ofNat i1)), u1_3, u1_4]) (st1 := [.int (Int32.ofNat i1), .ref 11]) (s1 := a1) rfl ?_
    refine UP.ald (e := i1) rfl rfl (by omega) ?_
    show UP m_X5_takeRowers 10 [some (.ref 58), some (.ref 10), some (.int (Int32.ofNat i1)), u1_3, u1_4] [.int (a1 11 i1)] a1 (Qv (F_takeRowers_c s))
    refine nm (G := fun v2 => UP m_X5_takeRowers 10 [some (.ref 58), some (.ref 10), some (.int (Int32.ofNat i1)), u1_3, u1_4] [.int v2] a1 (Qv (F_takeRowers_c s))) (a1 11 i1) (fun v2 e2 => ?_)
    refine UP.stp 4 (i1 := 14) (L1 := [some (.ref 58), some (.ref 10), some (.int (Int32.ofNat i1)), some (.int v2), u1_4]) (st1 := [.int (Int32.ofNat i1), .ref 12]) (s1 := a1) rfl ?_
    refine UP.ald (e := i1) rfl rfl (by omega) ?_
    show UP m_X5_takeRowers 15 [some (.ref 58), some (.ref 10), some (.int (Int32.ofNat i1)), some (.int v2), u1_4] [.int (a1 12 i1)] a1 (Qv (F_takeRowers_c s))
    refine nm (G := fun v3 => UP m_X5_takeRowers 15 [some (.ref 58), some (.ref 10), some (.int (Int32.ofNat i1)), some (.int v2), u1_4] [.int v3] a1 (Qv (F_takeRowers_c s))) (a1 12 i1) (fun v3 e3 => ?_)
    refine UP.stp 6 (i1 := 21) (L1 := [some (.ref 58), some (.ref 10), some (.int (Int32.ofNat i1)), some (.int v2), some (.int v3)]) (st1 := [.int 1, .int v2, .int (Int32.ofNat i1), .ref 91]) (s1 := a1) rfl ?_
    refine mrg (m_cmp .ne v2 1) (bif m_cmp .ne v2 2 then v3 else v3 - 1) (v3 + 2) (fun v5 : Int32 => UP m_X5_takeRowers 34 [some (.ref 58), some (.ref 10), some (.int (Int32.ofNat i1)), some (.int v2), some (.int v3)] [.int v5, .int (Int32.ofNat i1), .ref 91] a1 (Qv (F_takeRowers_c s))) (fun cc kk => ?_) (fun cc kk => ?_) (fun v5 e5 => ?_)
    · skip
      refine UP.icT rfl cc ?_
      refine UP.stp 2 (i1 := 28) (L1 := [some (.ref 58), some (.ref 10), some (.int (Int32.ofNat i1)), some (.int v2), some (.int v3)]) (st1 := [.int 2, .int v2, .int (Int32.ofNat i1), .ref 91]) (s1 := a1) rfl ?_
      refine mrg (m_cmp .ne v2 2) v3 (v3 - 1) (fun v4 : Int32 => UP m_X5_takeRowers 34 [some (.ref 58), some (.ref 10), some (.int (Int32.ofNat i1)), some (.int v2), some (.int v3)] [.int v4, .int (Int32.ofNat i1), .ref 91] a1 (Qv (F_takeRowers_c s))) (fun cc kk => ?_) (fun cc kk => ?_) (fun v4 e4 => ?_)
      · skip
        refine UP.icT rfl cc ?_
        refine UP.stp 1 (i1 := 34) (L1 := [some (.ref 58), some (.ref 10), some (.int (Int32.ofNat i1)), some (.int v2), some (.int v3)]) (st1 := [.int v3, .int (Int32.ofNat i1), .ref 91]) (s1 := a1) rfl ?_
        exact kk
      · skip
        refine UP.icF rfl cc ?_
        refine UP.stp 4 (i1 := 34) (L1 := [some (.ref 58), some (.ref 10), some (.int (Int32.ofNat i1)), some (.int v2), some (.int v3)]) (st1 := [.int (v3 - 1), .int (Int32.ofNat i1), .ref 91]) (s1 := a1) rfl ?_
        exact kk
      subst e4
      exact kk
    · skip
      refine UP.icF rfl cc ?_
      refine UP.stp 4 (i1 := 34) (L1 := [some (.ref 58), some (.ref 10), some (.int (Int32.ofNat i1)), some (.int v2), some (.int v3)]) (st1 := [.int (v3 + 2), .int (Int32.ofNat i1), .ref 91]) (s1 := a1) rfl ?_
      exact kk
    refine UP.ast (e := i1) rfl rfl (by omega) ?_
    show UP m_X5_takeRowers 35 [some (.ref 58), some (.ref 10), some (.int (Int32.ofNat i1)), some (.int v2), some (.int v3)] [] (uset a1 91 i1 v5) (Qv (F_takeRowers_c s))
    refine UP.stp 5 (i1 := 40) (L1 := [some (.ref 58), some (.ref 10), some (.int (Int32.ofNat i1)), some (.int v2), some (.int v3)]) (st1 := [.int 1, .int v2, .int (Int32.ofNat i1), .ref 92]) (s1 := (uset a1 91 i1 v5)) rfl ?_
    refine mrg (m_cmp .ne v2 1) (bif m_cmp .ne v2 2 then v3 else v3 + 1) (v3 - 1) (fun v7 : Int32 => UP m_X5_takeRowers 53 [some (.ref 58), some (.ref 10), some (.int (Int32.ofNat i1)), some (.int v2), some (.int v3)] [.int v7, .int (Int32.ofNat i1), .ref 92] (uset a1 91 i1 v5) (Qv (F_takeRowers_c s))) (fun cc kk => ?_) (fun cc kk => ?_) (fun v7 e7 => ?_)
    · skip
      refine UP.icT rfl cc ?_
      refine UP.stp 2 (i1 := 47) (L1 := [some (.ref 58), some (.ref 10), some (.int (Int32.ofNat i1)), some (.int v2), some (.int v3)]) (st1 := [.int 2, .int v2, .int (Int32.ofNat i1), .ref 92]) (s1 := (uset a1 91 i1 v5)) rfl ?_
      refine mrg (m_cmp .ne v2 2) v3 (v3 + 1) (fun v6 : Int32 => UP m_X5_takeRowers 53 [some (.ref 58), some (.ref 10), some (.int (Int32.ofNat i1)), some (.int v2), some (.int v3)] [.int v6, .int (Int32.ofNat i1), .ref 92] (uset a1 91 i1 v5) (Qv (F_takeRowers_c s))) (fun cc kk => ?_) (fun cc kk => ?_) (fun v6 e6 => ?_)
      · skip
        refine UP.icT rfl cc ?_
        refine UP.stp 1 (i1 := 53) (L1 := [some (.ref 58), some (.ref 10), some (.int (Int32.ofNat i1)), some (.int v2), some (.int v3)]) (st1 := [.int v3, .int (Int32.ofNat i1), .ref 92]) (s1 := (uset a1 91 i1 v5)) rfl ?_
        exact kk
      · skip
        refine UP.icF rfl cc ?_
        refine UP.stp 4 (i1 := 53) (L1 := [some (.ref 58), some (.ref 10), some (.int (Int32.ofNat i1)), some (.int v2), some (.int v3)]) (st1 := [.int (v3 + 1), .int (Int32.ofNat i1), .ref 92]) (s1 := (uset a1 91 i1 v5)) rfl ?_
        exact kk
      subst e6
      exact kk
    · skip
      refine UP.icF rfl cc ?_
      refine UP.stp 4 (i1 := 53) (L1 := [some (.ref 58), some (.ref 10), some (.int (Int32.ofNat i1)), some (.int v2), some (.int v3)]) (st1 := [.int (v3 - 1), .int (Int32.ofNat i1), .ref 92]) (s1 := (uset a1 91 i1 v5)) rfl ?_
      exact kk
    refine UP.ast (e := i1) rfl rfl (by omega) ?_
    show UP m_X5_takeRowers 54 [some (.ref 58), some (.ref 10), some (.int (Int32.ofNat i1)), some (.int v2), some (.int v3)] [] (uset (uset a1 91 i1 v5) 92 i1 v7) (Qv (F_takeRowers_c s))
    refine UP.stp 4 (i1 := 58) (L1 := [some (.ref 58), some (.ref 10), some (.int (Int32.ofNat i1)), some (.int v2), some (.int v3)]) (st1 := [.int 0, .int (Int32.ofNat i1), .ref 89]) (s1 := (uset (uset a1 91 i1 v5) 92 i1 v7)) rfl ?_
    refine UP.ast (e := i1) rfl rfl (by omega) ?_
    show UP m_X5_takeRowers 59 [some (.ref 58), some (.ref 10), some (.int (Int32.ofNat i1)), some (.int v2), some (.int v3)] [] (uset (uset (uset a1 91 i1 v5) 92 i1 v7) 89 i1 0) (Qv (F_takeRowers_c s))
    refine UP.stp 4 (i1 := 63) (L1 := [some (.ref 58), some (.ref 10), some (.int (Int32.ofNat i1)), some (.int v2), some (.int v3)]) (st1 := [.int 0, .int (Int32.ofNat i1), .ref 90]) (s1 := (uset (uset (uset a1 91 i1 v5) 92 i1 v7) 89 i1 0)) rfl ?_
    refine UP.ast (e := i1) rfl rfl (by omega) ?_
    show UP m_X5_takeRowers 64 [some (.ref 58), some (.ref 10), some (.int (Int32.ofNat i1)), some (.int v2), some (.int v3)] [] (uset (uset (uset (uset a1 91 i1 v5) 92 i1 v7) 89 i1 0) 90 i1 0) (Qv (F_takeRowers_c s))
    refine UP.stp 2 (i1 := 2) (L1 := [some (.ref 58), some (.ref 10), some (.int ((Int32.ofNat i1) + 1)), some (.int v2), some (.int v3)]) (st1 := []) (s1 := (uset (uset (uset (uset a1 91 i1 v5) 92 i1 v7) 89 i1 0) 90 i1 0)) rfl ?_
    subst e7 e5 e3 e2
    rw [ofn_s]
    try dsimp only [B_takeRowers_c_2] at kk
    exact kk _ _
  intro u1_3 u1_4
  refine UP.stp 3 (i1 := 5) (L1 := [some (.ref 58), some (.ref 10), some (.int (Int32.ofNat ((s 10 0).toNatClampNeg))), u1_3, u1_4]) (st1 := [.int (z1 10 0), .int (Int32.ofNat ((s 10 0).toNatClampNeg))]) (s1 := z1) rfl ?_
  refine UP.icT rfl (by rw [(g1 10 0 rfl)]; exact ge_T _) ?_
  exact UP.ret (r := none) rfl ⟨by subst e1; first | (dsimp only [F_takeRowers_c]; done) | (dsimp only; done) | rfl, by subst e1; first | (dsimp only [F_takeRowers_c]; done) | (dsimp only; done) | rfl⟩
def W_pullAll_c : List (Nat × Nat × Option Nat) := [(61, 62, none), (65, 88, none), (89, 90, none)]
def B_pullAll_c_33 (t : Nat) (v3 : Int32) (i4 : Nat) (a4 : SG × Int32 × Int32) : SG × Int32 × Int32 := let w8 := bif m_cmp .ne ((v3 >>> ((Int32.ofNat i4) &&& 31)) &&& (1 : Int32)) 0 then ((0 : Int32), a4.1) else ((bif m_cmp .ge (a4.1 89 i4) 6 then a4.1 92 i4 else a4.1 91 i4), (uset (uset a4.1 89 i4 ((a4.1 89 i4) + 1)) 90 i4 ((a4.1 90 i4) + (bif m_cmp .ge (a4.1 89 i4) 6 then a4.1 92 i4 else a4.1 91 i4)))); let w11 := bif m_cmp .ne ((Int32.ofNat i4) - (Int32.ofNat i4) / 2 * 2) 0 then (a4.2.1, (a4.2.2 + w8.1)) else ((a4.2.1 + w8.1), a4.2.2); ((uset w8.2 (65 + t) i4 w8.1), w11.1, w11.2)
theorem fr_B_pullAll_c_33 (t : Nat) (v3 : Int32) (i4 : Nat) (a4 : SG × Int32 × Int32) (ht : t < 24)  : Fr W_pullAll_c a4.1 ((B_pullAll_c_33 t v3) i4 a4).1 := by dsimp only [B_pullAll_c_33]; exact (let w8 : Int32 × SG := bif m_cmp .ne ((v3 >>> ((Int32.ofNat i4) &&& 31)) &&& (1 : Int32)) 0 then ((0 : Int32), a4.1) else ((bif m_cmp .ge (a4.1 89 i4) 6 then a4.1 92 i4 else a4.1 91 i4), (uset (uset a4.1 89 i4 ((a4.1 89 i4) + 1)) 90 i4 ((a4.1 90 i4) + (bif m_cmp .ge (a4.1 89 i4) 6 then a4.1 92 i4 else a4.1 91 i4)))); (Fr.uset (s1 := w8.2) (a := 65 + t) (j := i4) (x := w8.1) (inW_r 65 88 (by omega) (by omega) rfl) (Fr.bifp (b := m_cmp .ne ((v3 >>> ((Int32.ofNat i4) &&& 31)) &&& (1 : Int32)) 0) (x := ((0 : Int32), a4.1)) (y := ((bif m_cmp .ge (a4.1 89 i4) 6 then a4.1 92 i4 else a4.1 91 i4), (uset (uset a4.1 89 i4 ((a4.1 89 i4) + 1)) 90 i4 ((a4.1 90 i4) + (bif m_cmp .ge (a4.1 89 i4) 6 then a4.1 92 i4 else a4.1 91 i4))))) (fun x : Int32 × SG => x.2) (by (try dsimp only); exact (Fr.rf _ _)) (by (try dsimp only); exact (Fr.uset (s1 := (uset a4.1 89 i4 ((a4.1 89 i4) + 1))) (a := 90) (j := i4) (x := ((a4.1 90 i4) + (bif m_cmp .ge (a4.1 89 i4) 6 then a4.1 92 i4 else a4.1 91 i4))) (by rfl) (Fr.uset (s1 := a4.1) (a := 89) (j := i4) (x := ((a4.1 89 i4) + 1)) (by rfl) (Fr.rf _ _)))))))
def F_pullAll_c (s : SG) (t : Nat) : SG := let v2 := bif m_cmp .ne (s 58 8) (-1) then (0 : Int32) else (bif m_cmp .le (s 13 t) 0 then (0 : Int32) else (1 : Int32)); let v3 := bif m_cmp .eq v2 0 then (255 : Int32) else s 93 t; let z4 := itr (B_pullAll_c_33 t v3) 0 ((s 10 0).toNatClampNeg) (s, 0, 0); (uset (uset z4.1 61 t z4.2.1) 62 t z4.2.2)
theorem fr_pullAll_c (s : SG) (t : Nat) (ht : t < 24) : Fr W_pullAll_c s (F_pullAll_c s t) := by dsimp only [F_pullAll_c]; exact (let v2 : Int32 := bif m_cmp .ne (s 58 8) (-1) then (0 : Int32) else (bif m_cmp .le (s 13 t) 0 then (0 : Int32) else (1 : Int32)); (let v3 : Int32 := bif m_cmp .eq v2 0 then (255 : Int32) else s 93 t; (let z4 : SG × Int32 × Int32 := itr (B_pullAll_c_33 t v3) 0 ((s 10 0).toNatClampNeg) (s, 0, 0); (Fr.uset (s1 := (uset z4.1 61 t z4.2.1)) (a := 62) (j := t) (x := z4.2.2) (by rfl) (Fr.uset (s1 := z4.1) (a := 61) (j := t) (x := z4.2.1) (by rfl) (Fr.itr (W := W_pullAll_c) (m := (fun x : SG × Int32 × Int32 => x.1)) (f := (B_pullAll_c_33 t v3)) (fun ii aa => Fr.wk (W2 := W_pullAll_c) (fr_B_pullAll_c_33 t v3 ii aa ht) (by rfl)) ((s 10 0).toNatClampNeg) 0 (s, 0, 0) (Fr.rf _ _)))))))
theorem ux_pullAll_c (s : SG) (t : Nat) (ht : t < 24) : UP m_X5_pullAll 0 (m_ent 10 [.ref 58, .ref 10, .int (Int32.ofNat t)]) [] s (Qv (F_pullAll_c s t)) := by
  refine UP.stp 3 (i1 := 3) (L1 := [some (.ref 58), some (.ref 10), some (.int (Int32.ofNat t)), none, none, none, none, none, none, none]) (st1 := [.int (-1), .int (s 58 8)]) (s1 := s) rfl ?_
  refine mrg (m_cmp .ne (s 58 8) (-1)) (0 : Int32) (bif m_cmp .le (s 13 t) 0 then (0 : Int32) else (1 : Int32)) (fun v2 : Int32 => UP m_X5_pullAll 12 [some (.ref 58), some (.ref 10), some (.int (Int32.ofNat t)), none, none, none, none, none, none, none] [.int v2] s (Qv (F_pullAll_c s t))) (fun cc kk => ?_) (fun cc kk => ?_) (fun v2 e2 => ?_)
  · skip
    refine UP.icT rfl cc ?_
    refine UP.stp 1 (i1 := 12) (L1 := [some (.ref 58), some (.ref 10), some (.int (Int32.ofNat t)), none, none, none, none, none, none, none]) (st1 := [.int 0]) (s1 := s) rfl ?_
    exact kk
  · skip
    refine UP.icF rfl cc ?_
    refine UP.stp 3 (i1 := 7) (L1 := [some (.ref 58), some (.ref 10), some (.int (Int32.ofNat t)), none, none, none, none, none, none, none]) (st1 := [.int (Int32.ofNat t), .ref 13]) (s1 := s) rfl ?_
    refine UP.ald (e := t) rfl rfl (by omega) ?_
    show UP m_X5_pullAll 8 [some (.ref 58), some (.ref 10), some (.int (Int32.ofNat t)), none, none, none, none, none, none, none] [.int (s 13 t)] s (Qv (F_pullAll_c s t))
    refine mrg (m_cmp .le (s 13 t) 0) (0 : Int32) (1 : Int32) (fun v1 : Int32 => UP m_X5_pullAll 12 [some (.ref 58), some (.ref 10), some (.int (Int32.ofNat t)), none, none, none, none, none, none, none] [.int v1] s (Qv (F_pullAll_c s t))) (fun cc kk => ?_) (fun cc kk => ?_) (fun v1 e1 => ?_)
    · skip
      refine UP.ifT rfl cc ?_
      refine UP.stp 1 (i1 := 12) (L1 := [some (.ref 58), some (.ref 10), some (.int (Int32.ofNat t)), none, none, none, none, none, none, none]) (st1 := [.int 0]) (s1 := s) rfl ?_
      exact kk
    · skip
      refine UP.ifF rfl cc ?_
      refine UP.stp 2 (i1 := 12) (L1 := [some (.ref 58), some (.ref 10), some (.int (Int32.ofNat t)), none, none, none, none, none, none, none]) (st1 := [.int 1]) (s1 := s) rfl ?_
      exact kk
    subst e1
    exact kk
  refine UP.stp 2 (i1 := 14) (L1 := [some (.ref 58), some (.ref 10), some (.int (Int32.ofNat t)), some (.int v2), none, none, none, none, none, none]) (st1 := [.int v2]) (s1 := s) rfl ?_
  refine mrg (m_cmp .eq v2 0) (255 : Int32) (s 93 t) (fun v3 : Int32 => UP m_X5_pullAll 21 [some (.ref 58), some (.ref 10), some (.int (Int32.ofNat t)), some (.int v2), none, none, none, none, none, none] [.int v3] s (Qv (F_pullAll_c s t))) (fun cc kk => ?_) (fun cc kk => ?_) (fun v3 e3 => ?_)
  · skip
    refine UP.ifT rfl cc ?_
    refine UP.stp 1 (i1 := 21) (L1 := [some (.ref 58), some (.ref 10), some (.int (Int32.ofNat t)), some (.int v2), none, none, none, none, none, none]) (st1 := [.int 255]) (s1 := s) rfl ?_
    exact kk
  · skip
    refine UP.ifF rfl cc ?_
    refine UP.stp 3 (i1 := 18) (L1 := [some (.ref 58), some (.ref 10), some (.int (Int32.ofNat t)), some (.int v2), none, none, none, none, none, none]) (st1 := [.int (Int32.ofNat t), .ref 93]) (s1 := s) rfl ?_
    refine UP.ald (e := t) rfl rfl (by omega) ?_
    show UP m_X5_pullAll 19 [some (.ref 58), some (.ref 10), some (.int (Int32.ofNat t)), some (.int v2), none, none, none, none, none, none] [.int (s 93 t)] s (Qv (F_pullAll_c s t))
    refine UP.stp 1 (i1 := 21) (L1 := [some (.ref 58), some (.ref 10), some (.int (Int32.ofNat t)), some (.int v2), none, none, none, none, none, none]) (st1 := [.int (s 93 t)]) (s1 := s) rfl ?_
    exact kk
  refine UP.stp 4 (i1 := 25) (L1 := [some (.ref 58), some (.ref 10), some (.int (Int32.ofNat t)), some (.int v2), some (.int v3), none, none, none, none, none]) (st1 := [.int (Int32.ofNat t), .ref 64]) (s1 := s) rfl ?_
  refine UP.aald (e := t) (r := 65 + t) rfl rfl (by omega) rfl ?_
  refine UP.stp 7 (i1 := 33) (L1 := [some (.ref 58), some (.ref 10), some (.int (Int32.ofNat t)), some (.int v2), some (.int v3), some (.ref (65 + t)), some (.int 0), some (.int 0), some (.int 0), none]) (st1 := []) (s1 := s) rfl ?_
  refine lp (fun (i4 : Nat) (a4 : SG × Int32 × Int32) => ∀ (u4_3 : Option Value) (u4_9 : Option Value), UP m_X5_pullAll 33 [some (.ref 58), some (.ref 10), some (.int (Int32.ofNat t)), u4_3, some (.int v3), some (.ref (65 + t)), some (.int a4.2.1), some (.int a4.2.2), some (.int (Int32.ofNat i4)), u4_9] [] a4.1 (Qv (F_pullAll_c s t))) (fun (_ : Nat) (a4 : SG × Int32 × Int32) => Fr W_pullAll_c s a4.1) (B_pullAll_c_33 t v3) ((s 10 0).toNatClampNeg) (fun i4 a4 hi4 g4 => g4.tr (fr_B_pullAll_c_33 t v3 i4 a4 ht)) (fun i4 a4 hi4 g4 kk => ?_) ((s 10 0).toNatClampNeg) (0) (s, 0, 0) (by  omega) (Fr.rf _ _) (fun z4 e4 g4 => ?_) (some (.int v2)) none
  · skip
    intro u4_3 u4_9
    have hbi4 := cl_lt (s 10 0)
    refine UP.stp 3 (i1 := 36) (L1 := [some (.ref 58), some (.ref 10), some (.int (Int32.ofNat t)), u4_3, some (.int v3), some (.ref (65 + t)), some (.int a4.2.1), some (.int a4.2.2), some (.int (Int32.ofNat i4)), u4_9]) (st1 := [.int (a4.1 10 0), .int (Int32.ofNat i4)]) (s1 := a4.1) rfl ?_
    refine UP.icF rfl (by rw [(g4 10 0 rfl)]; exact ge_F hi4) ?_
    refine UP.stp 7 (i1 := 44) (L1 := [some (.ref 58), some (.ref 10), some (.int (Int32.ofNat t)), u4_3, some (.int v3), some (.ref (65 + t)), some (.int a4.2.1), some (.int a4.2.2), some (.int (Int32.ofNat i4)), some (.int 0)]) (st1 := [.int ((v3 >>> ((Int32.ofNat i4) &&& 31)) &&& (1 : Int32))]) (s1 := a4.1) rfl ?_
    refine mrg (m_cmp .ne ((v3 >>> ((Int32.ofNat i4) &&& 31)) &&& (1 : Int32)) 0) ((0 : Int32), a4.1) ((bif m_cmp .ge (a4.1 89 i4) 6 then a4.1 92 i4 else a4.1 91 i4), (uset (uset a4.1 89 i4 ((a4.1 89 i4) + 1)) 90 i4 ((a4.1 90 i4) + (bif m_cmp .ge (a4.1 89 i4) 6 then a4.1 92 i4 else a4.1 91 i4)))) (fun w8 : Int32 × SG => UP m_X5_pullAll 77 [some (.ref 58), some (.ref 10), some (.int (Int32.ofNat t)), u4_3, some (.int v3), some (.ref (65 + t)), some (.int a4.2.1), some (.int a4.2.2), some (.int (Int32.ofNat i4)), some (.int w8.1)] [] w8.2 (Qv (F_pullAll_c s t))) (fun cc kk => ?_) (fun cc kk => ?_) (fun w8 e8 => ?_)
    · skip
      refine UP.ifT rfl cc ?_
      exact kk
    · skip
      refine UP.ifF rfl cc ?_
      refine UP.stp 3 (i1 := 48) (L1 := [some (.ref 58), some (.ref 10), some (.int (Int32.ofNat t)), u4_3, some (.int v3), some (.ref (65 + t)), some (.int a4.2.1), some (.int a4.2.2), some (.int (Int32.ofNat i4)), some (.int 0)]) (st1 := [.int (Int32.ofNat i4), .ref 89]) (s1 := a4.1) rfl ?_
      refine UP.ald (e := i4) rfl rfl (by omega) ?_
      show UP m_X5_pullAll 49 [some (.ref 58), some (.ref 10), some (.int (Int32.ofNat t)), u4_3, some (.int v3), some (.ref (65 + t)), some (.int a4.2.1), some (.int a4.2.2), some (.int (Int32.ofNat i4)), some (.int 0)] [.int (a4.1 89 i4)] a4.1 (Qv (F_pullAll_c s t))
      refine UP.stp 1 (i1 := 50) (L1 := [some (.ref 58), some (.ref 10), some (.int (Int32.ofNat t)), u4_3, some (.int v3), some (.ref (65 + t)), some (.int a4.2.1), some (.int a4.2.2), some (.int (Int32.ofNat i4)), some (.int 0)]) (st1 := [.int 6, .int (a4.1 89 i4)]) (s1 := a4.1) rfl ?_
      refine mrg (m_cmp .ge (a4.1 89 i4) 6) (a4.1 92 i4) (a4.1 91 i4) (fun v5 : Int32 => UP m_X5_pullAll 60 [some (.ref 58), some (.ref 10), some (.int (Int32.ofNat t)), u4_3, some (.int v3), some (.ref (65 + t)), some (.int a4.2.1), some (.int a4.2.2), some (.int (Int32.ofNat i4)), some (.int 0)] [.int v5] a4.1 (Qv (F_pullAll_c s t))) (fun cc kk => ?_) (fun cc kk => ?_) (fun v5 e5 => ?_)
      · skip
        refine UP.icT rfl cc ?_
        refine UP.stp 3 (i1 := 59) (L1 := [some (.ref 58), some (.ref 10), some (.int (Int32.ofNat t)), u4_3, some (.int v3), some (.ref (65 + t)), some (.int a4.2.1), some (.int a4.2.2), some (.int (Int32.ofNat i4)), some (.int 0)]) (st1 := [.int (Int32.ofNat i4), .ref 92]) (s1 := a4.1) rfl ?_
        refine UP.ald (e := i4) rfl rfl (by omega) ?_
        show UP m_X5_pullAll 60 [some (.ref 58), some (.ref 10), some (.int (Int32.ofNat t)), u4_3, some (.int v3), some (.ref (65 + t)), some (.int a4.2.1), some (.int a4.2.2), some (.int (Int32.ofNat i4)), some (.int 0)] [.int (a4.1 92 i4)] a4.1 (Qv (F_pullAll_c s t))
        exact kk
      · skip
        refine UP.icF rfl cc ?_
        refine UP.stp 3 (i1 := 54) (L1 := [some (.ref 58), some (.ref 10), some (.int (Int32.ofNat t)), u4_3, some (.int v3), some (.ref (65 + t)), some (.int a4.2.1), some (.int a4.2.2), some (.int (Int32.ofNat i4)), some (.int 0)]) (st1 := [.int (Int32.ofNat i4), .ref 91]) (s1 := a4.1) rfl ?_
        refine UP.ald (e := i4) rfl rfl (by omega) ?_
        show UP m_X5_pullAll 55 [some (.ref 58), some (.ref 10), some (.int (Int32.ofNat t)), u4_3, some (.int v3), some (.ref (65 + t)), some (.int a4.2.1), some (.int a4.2.2), some (.int (Int32.ofNat i4)), some (.int 0)] [.int (a4.1 91 i4)] a4.1 (Qv (F_pullAll_c s t))
        refine UP.stp 1 (i1 := 60) (L1 := [some (.ref 58), some (.ref 10), some (.int (Int32.ofNat t)), u4_3, some (.int v3), some (.ref (65 + t)), some (.int a4.2.1), some (.int a4.2.2), some (.int (Int32.ofNat i4)), some (.int 0)]) (st1 := [.int (a4.1 91 i4)]) (s1 := a4.1) rfl ?_
        exact kk
      refine UP.stp 5 (i1 := 65) (L1 := [some (.ref 58), some (.ref 10), some (.int (Int32.ofNat t)), u4_3, some (.int v3), some (.ref (65 + t)), some (.int a4.2.1), some (.int a4.2.2), some (.int (Int32.ofNat i4)), some (.int v5)]) (st1 := [.int (Int32.ofNat i4), .ref 89, .int (Int32.ofNat i4), .ref 89]) (s1 := a4.1) rfl ?_
      refine UP.ald (e := i4) rfl rfl (by omega) ?_
      show UP m_X5_pullAll 66 [some (.ref 58), some (.ref 10), some (.int (Int32.ofNat t)), u4_3, some (.int v3), some (.ref (65 + t)), some (.int a4.2.1), some (.int a4.2.2), some (.int (Int32.ofNat i4)), some (.int v5)] [.int (a4.1 89 i4), .int (Int32.ofNat i4), .ref 89] a4.1 (Qv (F_pullAll_c s t))
      refine UP.stp 2 (i1 := 68) (L1 := [some (.ref 58), some (.ref 10), some (.int (Int32.ofNat t)), u4_3, some (.int v3), some (.ref (65 + t)), some (.int a4.2.1), some (.int a4.2.2), some (.int (Int32.ofNat i4)), some (.int v5)]) (st1 := [.int ((a4.1 89 i4) + 1), .int (Int32.ofNat i4), .ref 89]) (s1 := a4.1) rfl ?_
      refine nm (G := fun v6 => UP m_X5_pullAll 68 [some (.ref 58), some (.ref 10), some (.int (Int32.ofNat t)), u4_3, some (.int v3), some (.ref (65 + t)), some (.int a4.2.1), some (.int a4.2.2), some (.int (Int32.ofNat i4)), some (.int v5)] [.int v6, .int (Int32.ofNat i4), .ref 89] a4.1 (Qv (F_pullAll_c s t))) ((a4.1 89 i4) + 1) (fun v6 e6 => ?_)
      refine UP.ast (e := i4) rfl rfl (by omega) ?_
      show UP m_X5_pullAll 69 [some (.ref 58), some (.ref 10), some (.int (Int32.ofNat t)), u4_3, some (.int v3), some (.ref (65 + t)), some (.int a4.2.1), some (.int a4.2.2), some (.int (Int32.ofNat i4)), some (.int v5)] [] (uset a4.1 89 i4 v6) (Qv (F_pullAll_c s t))
      refine UP.stp 4 (i1 := 73) (L1 := [some (.ref 58), some (.ref 10), some (.int (Int32.ofNat t)), u4_3, some (.int v3), some (.ref (65 + t)), some (.int a4.2.1), some (.int a4.2.2), some (.int (Int32.ofNat i4)), some (.int v5)]) (st1 := [.int (Int32.ofNat i4), .ref 90, .int (Int32.ofNat i4), .ref 90]) (s1 := (uset a4.1 89 i4 v6)) rfl ?_
      refine UP.ald (e := i4) rfl rfl (by omega) ?_
      show UP m_X5_pullAll 74 [some (.ref 58), some (.ref 10), some (.int (Int32.ofNat t)), u4_3, some (.int v3), some (.ref (65 + t)), some (.int a4.2.1), some (.int a4.2.2), some (.int (Int32.ofNat i4)), some (.int v5)] [.int (a4.1 90 i4), .int (Int32.ofNat i4), .ref 90] (uset a4.1 89 i4 v6) (Qv (F_pullAll_c s t))
      refine UP.stp 2 (i1 := 76) (L1 := [some (.ref 58), some (.ref 10), some (.int (Int32.ofNat t)), u4_3, some (.int v3), some (.ref (65 + t)), some (.int a4.2.1), some (.int a4.2.2), some (.int (Int32.ofNat i4)), some (.int v5)]) (st1 := [.int ((a4.1 90 i4) + v5), .int (Int32.ofNat i4), .ref 90]) (s1 := (uset a4.1 89 i4 v6)) rfl ?_
      refine nm (G := fun v7 => UP m_X5_pullAll 76 [some (.ref 58), some (.ref 10), some (.int (Int32.ofNat t)), u4_3, some (.int v3), some (.ref (65 + t)), some (.int a4.2.1), some (.int a4.2.2), some (.int (Int32.ofNat i4)), some (.int v5)] [.int v7, .int (Int32.ofNat i4), .ref 90] (uset a4.1 89 i4 v6) (Qv (F_pullAll_c s t))) ((a4.1 90 i4) + v5) (fun v7 e7 => ?_)
      refine UP.ast (e := i4) rfl rfl (by omega) ?_
      show UP m_X5_pullAll 77 [some (.ref 58), some (.ref 10), some (.int (Int32.ofNat t)), u4_3, some (.int v3), some (.ref (65 + t)), some (.int a4.2.1), some (.int a4.2.2), some (.int (Int32.ofNat i4)), some (.int v5)] [] (uset (uset a4.1 89 i4 v6) 90 i4 v7) (Qv (F_pullAll_c s t))
      subst e7 e6 e5
      exact kk
    refine UP.stp 3 (i1 := 80) (L1 := [some (.ref 58), some (.ref 10), some (.int (Int32.ofNat t)), u4_3, some (.int v3), some (.ref (65 + t)), some (.int a4.2.1), some (.int a4.2.2), some (.int (Int32.ofNat i4)), some (.int w8.1)]) (st1 := [.int w8.1, .int (Int32.ofNat i4), .ref (65 + t)]) (s1 := w8.2) rfl ?_
    refine UP.ast (e := i4) rfl rfl (by omega) ?_
    show UP m_X5_pullAll 81 [some (.ref 58), some (.ref 10), some (.int (Int32.ofNat t)), u4_3, some (.int v3), some (.ref (65 + t)), some (.int a4.2.1), some (.int a4.2.2), some (.int (Int32.ofNat i4)), some (.int w8.1)] [] (uset w8.2 (65 + t) i4 w8.1) (Qv (F_pullAll_c s t))
    refine UP.stp 3 (i1 := 84) (L1 := [some (.ref 58), some (.ref 10), some (.int (Int32.ofNat t)), u4_3, some (.int v3), some (.ref (65 + t)), some (.int a4.2.1), some (.int a4.2.2), some (.int (Int32.ofNat i4)), some (.int w8.1)]) (st1 := [.int ((Int32.ofNat i4) - (Int32.ofNat i4) / 2 * 2)]) (s1 := (uset w8.2 (65 + t) i4 w8.1)) rfl ?_
    refine mrg (m_cmp .ne ((Int32.ofNat i4) - (Int32.ofNat i4) / 2 * 2) 0) (a4.2.1, (a4.2.2 + w8.1)) ((a4.2.1 + w8.1), a4.2.2) (fun w11 : Int32 × Int32 => UP m_X5_pullAll 94 [some (.ref 58), some (.ref 10), some (.int (Int32.ofNat t)), u4_3, some (.int v3), some (.ref (65 + t)), some (.int w11.1), some (.int w11.2), some (.int (Int32.ofNat i4)), some (.int w8.1)] [] (uset w8.2 (65 + t) i4 w8.1) (Qv (F_pullAll_c s t))) (fun cc kk => ?_) (fun cc kk => ?_) (fun w11 e11 => ?_)
    · skip
      refine UP.ifT rfl cc ?_
      refine UP.stp 3 (i1 := 93) (L1 := [some (.ref 58), some (.ref 10), some (.int (Int32.ofNat t)), u4_3, some (.int v3), some (.ref (65 + t)), some (.int a4.2.1), some (.int a4.2.2), some (.int (Int32.ofNat i4)), some (.int w8.1)]) (st1 := [.int (a4.2.2 + w8.1)]) (s1 := (uset w8.2 (65 + t) i4 w8.1)) rfl ?_
      refine nm (G := fun v9 => UP m_X5_pullAll 93 [some (.ref 58), some (.ref 10), some (.int (Int32.ofNat t)), u4_3, some (.int v3), some (.ref (65 + t)), some (.int a4.2.1), some (.int a4.2.2), some (.int (Int32.ofNat i4)), some (.int w8.1)] [.int v9] (uset w8.2 (65 + t) i4 w8.1) (Qv (F_pullAll_c s t))) (a4.2.2 + w8.1) (fun v9 e9 => ?_)
      refine UP.stp 1 (i1 := 94) (L1 := [some (.ref 58), some (.ref 10), some (.int (Int32.ofNat t)), u4_3, some (.int v3), some (.ref (65 + t)), some (.int a4.2.1), some (.int v9), some (.int (Int32.ofNat i4)), some (.int w8.1)]) (st1 := []) (s1 := (uset w8.2 (65 + t) i4 w8.1)) rfl ?_
      subst e9
      exact kk
    · skip
      refine UP.ifF rfl cc ?_
      refine UP.stp 3 (i1 := 88) (L1 := [some (.ref 58), some (.ref 10), some (.int (Int32.ofNat t)), u4_3, some (.int v3), some (.ref (65 + t)), some (.int a4.2.1), some (.int a4.2.2), some (.int (Int32.ofNat i4)), some (.int w8.1)]) (st1 := [.int (a4.2.1 + w8.1)]) (s1 := (uset w8.2 (65 + t) i4 w8.1)) rfl ?_
      refine nm (G := fun v10 => UP m_X5_pullAll 88 [some (.ref 58), some (.ref 10), some (.int (Int32.ofNat t)), u4_3, some (.int v3), some (.ref (65 + t)), some (.int a4.2.1), some (.int a4.2.2), some (.int (Int32.ofNat i4)), some (.int w8.1)] [.int v10] (uset w8.2 (65 + t) i4 w8.1) (Qv (F_pullAll_c s t))) (a4.2.1 + w8.1) (fun v10 e10 => ?_)
      refine UP.stp 2 (i1 := 94) (L1 := [some (.ref 58), some (.ref 10), some (.int (Int32.ofNat t)), u4_3, some (.int v3), some (.ref (65 + t)), some (.int v10), some (.int a4.2.2), some (.int (Int32.ofNat i4)), some (.int w8.1)]) (st1 := []) (s1 := (uset w8.2 (65 + t) i4 w8.1)) rfl ?_
      subst e10
      exact kk
    refine UP.stp 2 (i1 := 33) (L1 := [some (.ref 58), some (.ref 10), some (.int (Int32.ofNat t)), u4_3, some (.int v3), some (.ref (65 + t)), some (.int w11.1), some (.int w11.2), some (.int ((Int32.ofNat i4) + 1)), some (.int w8.1)]) (st1 := []) (s1 := (uset w8.2 (65 + t) i4 w8.1)) rfl ?_
    subst e11 e8
    rw [ofn_s]
    try dsimp only [B_pullAll_c_33] at kk
    exact kk _ _
  intro u4_3 u4_9
  refine UP.stp 3 (i1 := 36) (L1 := [some (.ref 58), some (.ref 10), some (.int (Int32.ofNat t)), u4_3, some (.int v3), some (.ref (65 + t)), some (.int z4.2.1), some (.int z4.2.2), some (.int (Int32.ofNat ((s 10 0).toNatClampNeg))), u4_9]) (st1 := [.int (z4.1 10 0), .int (Int32.ofNat ((s 10 0).toNatClampNeg))]) (s1 := z4.1) rfl ?_
  refine UP.icT rfl (by rw [(g4 10 0 rfl)]; exact ge_T _) ?_
  refine UP.stp 4 (i1 := 100) (L1 := [some (.ref 58), some (.ref 10), some (.int (Int32.ofNat t)), u4_3, some (.int v3), some (.ref (65 + t)), some (.int z4.2.1), some (.int z4.2.2), some (.int (Int32.ofNat ((s 10 0).toNatClampNeg))), u4_9]) (st1 := [.int z4.2.1, .int (Int32.ofNat t), .ref 61]) (s1 := z4.1) rfl ?_
  refine UP.ast (e := t) rfl rfl (by omega) ?_
  show UP m_X5_pullAll 101 [some (.ref 58), some (.ref 10), some (.int (Int32.ofNat t)), u4_3, some (.int v3), some (.ref (65 + t)), some (.int z4.2.1), some (.int z4.2.2), some (.int (Int32.ofNat ((s 10 0).toNatClampNeg))), u4_9] [] (uset z4.1 61 t z4.2.1) (Qv (F_pullAll_c s t))
  refine UP.stp 4 (i1 := 105) (L1 := [some (.ref 58), some (.ref 10), some (.int (Int32.ofNat t)), u4_3, some (.int v3), some (.ref (65 + t)), some (.int z4.2.1), some (.int z4.2.2), some (.int (Int32.ofNat ((s 10 0).toNatClampNeg))), u4_9]) (st1 := [.int z4.2.2, .int (Int32.ofNat t), .ref 62]) (s1 := (uset z4.1 61 t z4.2.1)) rfl ?_
  refine UP.ast (e := t) rfl rfl (by omega) ?_
  show UP m_X5_pullAll 106 [some (.ref 58), some (.ref 10), some (.int (Int32.ofNat t)), u4_3, some (.int v3), some (.ref (65 + t)), some (.int z4.2.1), some (.int z4.2.2), some (.int (Int32.ofNat ((s 10 0).toNatClampNeg))), u4_9] [] (uset (uset z4.1 61 t z4.2.1) 62 t z4.2.2) (Qv (F_pullAll_c s t))
  exact UP.ret (r := none) rfl ⟨by subst e4 e3 e2; first | (dsimp only [F_pullAll_c]; done) | (dsimp only; done) | rfl, by subst e4 e3 e2; first | (dsimp only [F_pullAll_c]; done) | (dsimp only; done) | rfl⟩
def W_placeBehind_c : List (Nat × Nat × Option Nat) := [(63, 63, none)]
def F_placeBehind_c (s : SG) (t : Nat) (p : Int32) : Int32 × SG := let v1 := ((s 13 t) * ((s 61 t) - (s 62 t))) / 6; let v2 := s 14 t; let v4 := bif m_cmp .ne v2 2 then (bif m_cmp .ne v2 1 then (0 : Int32) else (-1 : Int32)) else (1 : Int32); let v5 := ((p + v1) + v4) + (s 94 t); bif m_cmp .le v5 0 then (let v8 := bif m_cmp .gt v5 0 then (20 : Int32) else (0 : Int32); (v8, (uset s 63 t 1))) else (bif m_cmp .ge v5 20 then (let v11 := bif m_cmp .gt v5 0 then (20 : Int32) else (0 : Int32); (v11, (uset s 63 t 1))) else ((v5, s)))
theorem fr_placeBehind_c (s : SG) (t : Nat) (p : Int32)  : Fr W_placeBehind_c s (F_placeBehind_c s t p).2 := by dsimp only [F_placeBehind_c]; exact (let v1 : Int32 := ((s 13 t) * ((s 61 t) - (s 62 t))) / 6; (let v2 : Int32 := s 14 t; (let v4 : Int32 := bif m_cmp .ne v2 2 then (bif m_cmp .ne v2 1 then (0 : Int32) else (-1 : Int32)) else (1 : Int32); (let v5 : Int32 := ((p + v1) + v4) + (s 94 t); (Fr.bifp (b := m_cmp .le v5 0) (x := let v8 := bif m_cmp .gt v5 0 then (20 : Int32) else (0 : Int32); (v8, (uset s 63 t 1))) (y := bif m_cmp .ge v5 20 then (let v11 := bif m_cmp .gt v5 0 then (20 : Int32) else (0 : Int32); (v11, (uset s 63 t 1))) else ((v5, s))) (fun x : Int32 × SG => x.2) (by (try dsimp only); exact (Fr.uset (s1 := s) (a := 63) (j := t) (x := 1) (by rfl) (Fr.rf _ _))) (by (try dsimp only); exact (Fr.bifp (b := m_cmp .ge v5 20) (x := let v11 := bif m_cmp .gt v5 0 then (20 : Int32) else (0 : Int32); (v11, (uset s 63 t 1))) (y := (v5, s)) (fun x : Int32 × SG => x.2) (by (try dsimp only); exact (Fr.uset (s1 := s) (a := 63) (j := t) (x := 1) (by rfl) (Fr.rf _ _))) (by (try dsimp only); exact (Fr.rf _ _)))))))))
theorem ux_placeBehind_c (s : SG) (t : Nat) (p : Int32) (ht : t < 24) : UP m_X5_placeBehind 0 (m_ent 8 [.ref 58, .ref 10, .int (Int32.ofNat t), .int p]) [] s (Qb (F_placeBehind_c s t p)) := by
  refine UP.stp 3 (i1 := 3) (L1 := [some (.ref 58), some (.ref 10), some (.int (Int32.ofNat t)), some (.int p), none, none, none, none]) (st1 := [.int (Int32.ofNat t), .ref 13]) (s1 := s) rfl ?_
  refine UP.ald (e := t) rfl rfl (by omega) ?_
  show UP m_X5_placeBehind 4 [some (.ref 58), some (.ref 10), some (.int (Int32.ofNat t)), some (.int p), none, none, none, none] [.int (s 13 t)] s (Qb (F_placeBehind_c s t p))
  refine UP.stp 3 (i1 := 7) (L1 := [some (.ref 58), some (.ref 10), some (.int (Int32.ofNat t)), some (.int p), none, none, none, none]) (st1 := [.int (Int32.ofNat t), .ref 61, .int (s 13 t)]) (s1 := s) rfl ?_
  refine UP.ald (e := t) rfl rfl (by omega) ?_
  show UP m_X5_placeBehind 8 [some (.ref 58), some (.ref 10), some (.int (Int32.ofNat t)), some (.int p), none, none, none, none] [.int (s 61 t), .int (s 13 t)] s (Qb (F_placeBehind_c s t p))
  refine UP.stp 3 (i1 := 11) (L1 := [some (.ref 58), some (.ref 10), some (.int (Int32.ofNat t)), some (.int p), none, none, none, none]) (st1 := [.int (Int32.ofNat t), .ref 62, .int (s 61 t), .int (s 13 t)]) (s1 := s) rfl ?_
  refine UP.ald (e := t) rfl rfl (by omega) ?_
  show UP m_X5_placeBehind 12 [some (.ref 58), some (.ref 10), some (.int (Int32.ofNat t)), some (.int p), none, none, none, none] [.int (s 62 t), .int (s 61 t), .int (s 13 t)] s (Qb (F_placeBehind_c s t p))
  refine UP.stp 4 (i1 := 16) (L1 := [some (.ref 58), some (.ref 10), some (.int (Int32.ofNat t)), some (.int p), none, none, none, none]) (st1 := [.int (((s 13 t) * ((s 61 t) - (s 62 t))) / 6)]) (s1 := s) rfl ?_
  refine nm (G := fun v1 => UP m_X5_placeBehind 16 [some (.ref 58), some (.ref 10), some (.int (Int32.ofNat t)), some (.int p), none, none, none, none] [.int v1] s (Qb (F_placeBehind_c s t p))) (((s 13 t) * ((s 61 t) - (s 62 t))) / 6) (fun v1 e1 => ?_)
  refine UP.stp 4 (i1 := 20) (L1 := [some (.ref 58), some (.ref 10), some (.int (Int32.ofNat t)), some (.int p), some (.int v1), none, none, none]) (st1 := [.int (Int32.ofNat t), .ref 14]) (s1 := s) rfl ?_
  refine UP.ald (e := t) rfl rfl (by omega) ?_
  show UP m_X5_placeBehind 21 [some (.ref 58), some (.ref 10), some (.int (Int32.ofNat t)), some (.int p), some (.int v1), none, none, none] [.int (s 14 t)] s (Qb (F_placeBehind_c s t p))
  refine nm (G := fun v2 => UP m_X5_placeBehind 21 [some (.ref 58), some (.ref 10), some (.int (Int32.ofNat t)), some (.int p), some (.int v1), none, none, none] [.int v2] s (Qb (F_placeBehind_c s t p))) (s 14 t) (fun v2 e2 => ?_)
  refine UP.stp 3 (i1 := 24) (L1 := [some (.ref 58), some (.ref 10), some (.int (Int32.ofNat t)), some (.int p), some (.int v1), some (.int v2), none, none]) (st1 := [.int 2, .int v2]) (s1 := s) rfl ?_
  refine mrg (m_cmp .ne v2 2) (bif m_cmp .ne v2 1 then (0 : Int32) else (-1 : Int32)) (1 : Int32) (fun v4 : Int32 => UP m_X5_placeBehind 33 [some (.ref 58), some (.ref 10), some (.int (Int32.ofNat t)), some (.int p), some (.int v1), some (.int v2), none, none] [.int v4] s (Qb (F_placeBehind_c s t p))) (fun cc kk => ?_) (fun cc kk => ?_) (fun v4 e4 => ?_)
  · skip
    refine UP.icT rfl cc ?_
    refine UP.stp 2 (i1 := 29) (L1 := [some (.ref 58), some (.ref 10), some (.int (Int32.ofNat t)), some (.int p), some (.int v1), some (.int v2), none, none]) (st1 := [.int 1, .int v2]) (s1 := s) rfl ?_
    refine mrg (m_cmp .ne v2 1) (0 : Int32) (-1 : Int32) (fun v3 : Int32 => UP m_X5_placeBehind 33 [some (.ref 58), some (.ref 10), some (.int (Int32.ofNat t)), some (.int p), some (.int v1), some (.int v2), none, none] [.int v3] s (Qb (F_placeBehind_c s t p))) (fun cc kk => ?_) (fun cc kk => ?_) (fun v3 e3 => ?_)
    · skip
      refine UP.icT rfl cc ?_
      refine UP.stp 1 (i1 := 33) (L1 := [some (.ref 58), some (.ref 10), some (.int (Int32.ofNat t)), some (.int p), some (.int v1), some (.int v2), none, none]) (st1 := [.int 0]) (s1 := s) rfl ?_
      exact kk
    · skip
      refine UP.icF rfl cc ?_
      refine UP.stp 2 (i1 := 33) (L1 := [some (.ref 58), some (.ref 10), some (.int (Int32.ofNat t)), some (.int p), some (.int v1), some (.int v2), none, none]) (st1 := [.int (-1)]) (s1 := s) rfl ?_
      exact kk
    subst e3
    exact kk
  · skip
    refine UP.icF rfl cc ?_
    refine UP.stp 2 (i1 := 33) (L1 := [some (.ref 58), some (.ref 10), some (.int (Int32.ofNat t)), some (.int p), some (.int v1), some (.int v2), none, none]) (st1 := [.int 1]) (s1 := s) rfl ?_
    exact kk
  refine UP.stp 9 (i1 := 42) (L1 := [some (.ref 58), some (.ref 10), some (.int (Int32.ofNat t)), some (.int p), some (.int v1), some (.int v2), some (.int v4), none]) (st1 := [.int (Int32.ofNat t), .ref 94, .int ((p + v1) + v4)]) (s1 := s) rfl ?_
  refine UP.ald (e := t) rfl rfl (by omega) ?_
  show UP m_X5_placeBehind 43 [some (.ref 58), some (.ref 10), some (.int (Int32.ofNat t)), some (.int p), some (.int v1), some (.int v2), some (.int v4), none] [.int (s 94 t), .int ((p + v1) + v4)] s (Qb (F_placeBehind_c s t p))
  refine UP.stp 1 (i1 := 44) (L1 := [some (.ref 58), some (.ref 10), some (.int (Int32.ofNat t)), some (.int p), some (.int v1), some (.int v2), some (.int v4), none]) (st1 := [.int (((p + v1) + v4) + (s 94 t))]) (s1 := s) rfl ?_
  refine nm (G := fun v5 => UP m_X5_placeBehind 44 [some (.ref 58), some (.ref 10), some (.int (Int32.ofNat t)), some (.int p), some (.int v1), some (.int v2), some (.int v4), none] [.int v5] s (Qb (F_placeBehind_c s t p))) (((p + v1) + v4) + (s 94 t)) (fun v5 e5 => ?_)
  refine UP.stp 2 (i1 := 46) (L1 := [some (.ref 58), some (.ref 10), some (.int (Int32.ofNat t)), some (.int p), some (.int v1), some (.int v2), some (.int v4), some (.int v5)]) (st1 := [.int v5]) (s1 := s) rfl ?_
  refine UP.spl (m_cmp .le v5 0) (let v8 := bif m_cmp .gt v5 0 then (20 : Int32) else (0 : Int32); (v8, (uset s 63 t 1))) (bif m_cmp .ge v5 20 then (let v11 := bif m_cmp .gt v5 0 then (20 : Int32) else (0 : Int32); (v11, (uset s 63 t 1))) else ((v5, s))) (by subst e5 e4 e2 e1; first | (dsimp only [F_placeBehind_c]; done) | (dsimp only; done) | rfl) (fun cc => ?_) (fun cc => ?_)
  · skip
    refine UP.ifT rfl cc ?_
    refine UP.stp 4 (i1 := 56) (L1 := [some (.ref 58), some (.ref 10), some (.int (Int32.ofNat t)), some (.int p), some (.int v1), some (.int v2), some (.int v4), some (.int v5)]) (st1 := [.int 1, .int (Int32.ofNat t), .ref 63]) (s1 := s) rfl ?_
    refine UP.ast (e := t) rfl rfl (by omega) ?_
    show UP m_X5_placeBehind 57 [some (.ref 58), some (.ref 10), some (.int (Int32.ofNat t)), some (.int p), some (.int v1), some (.int v2), some (.int v4), some (.int v5)] [] (uset s 63 t 1) (Qb (let v8 := bif m_cmp .gt v5 0 then (20 : Int32) else (0 : Int32); (v8, (uset s 63 t 1))))
    refine UP.stp 1 (i1 := 58) (L1 := [some (.ref 58), some (.ref 10), some (.int (Int32.ofNat t)), some (.int p), some (.int v1), some (.int v2), some (.int v4), some (.int v5)]) (st1 := [.int v5]) (s1 := (uset s 63 t 1)) rfl ?_
    refine mrg (m_cmp .gt v5 0) (20 : Int32) (0 : Int32) (fun v8 : Int32 => UP m_X5_placeBehind 62 [some (.ref 58), some (.ref 10), some (.int (Int32.ofNat t)), some (.int p), some (.int v1), some (.int v2), some (.int v4), some (.int v5)] [.int v8] (uset s 63 t 1) (Qb (let v8 := bif m_cmp .gt v5 0 then (20 : Int32) else (0 : Int32); (v8, (uset s 63 t 1))))) (fun cc kk => ?_) (fun cc kk => ?_) (fun v8 e8 => ?_)
    · skip
      refine UP.ifT rfl cc ?_
      refine UP.stp 1 (i1 := 62) (L1 := [some (.ref 58), some (.ref 10), some (.int (Int32.ofNat t)), some (.int p), some (.int v1), some (.int v2), some (.int v4), some (.int v5)]) (st1 := [.int 20]) (s1 := (uset s 63 t 1)) rfl ?_
      exact kk
    · skip
      refine UP.ifF rfl cc ?_
      refine UP.stp 2 (i1 := 62) (L1 := [some (.ref 58), some (.ref 10), some (.int (Int32.ofNat t)), some (.int p), some (.int v1), some (.int v2), some (.int v4), some (.int v5)]) (st1 := [.int 0]) (s1 := (uset s 63 t 1)) rfl ?_
      exact kk
    exact UP.ret (r := some (.int v8)) rfl ⟨by subst e8 e5 e4 e2 e1; first | (dsimp only [F_placeBehind_c]; done) | (dsimp only; done) | rfl, by subst e8 e5 e4 e2 e1; first | (dsimp only [F_placeBehind_c]; done) | (dsimp only; done) | rfl⟩
  · skip
    refine UP.ifF rfl cc ?_
    refine UP.stp 2 (i1 := 49) (L1 := [some (.ref 58), some (.ref 10), some (.int (Int32.ofNat t)), some (.int p), some (.int v1), some (.int v2), some (.int v4), some (.int v5)]) (st1 := [.int 20, .int v5]) (s1 := s) rfl ?_
    refine UP.spl (m_cmp .ge v5 20) (let v11 := bif m_cmp .gt v5 0 then (20 : Int32) else (0 : Int32); (v11, (uset s 63 t 1))) ((v5, s)) (by subst e5 e4 e2 e1; first | (dsimp only [F_placeBehind_c]; done) | (dsimp only; done) | rfl) (fun cc => ?_) (fun cc => ?_)
    · skip
      refine UP.icT rfl cc ?_
      refine UP.stp 4 (i1 := 56) (L1 := [some (.ref 58), some (.ref 10), some (.int (Int32.ofNat t)), some (.int p), some (.int v1), some (.int v2), some (.int v4), some (.int v5)]) (st1 := [.int 1, .int (Int32.ofNat t), .ref 63]) (s1 := s) rfl ?_
      refine UP.ast (e := t) rfl rfl (by omega) ?_
      show UP m_X5_placeBehind 57 [some (.ref 58), some (.ref 10), some (.int (Int32.ofNat t)), some (.int p), some (.int v1), some (.int v2), some (.int v4), some (.int v5)] [] (uset s 63 t 1) (Qb (let v11 := bif m_cmp .gt v5 0 then (20 : Int32) else (0 : Int32); (v11, (uset s 63 t 1))))
      refine UP.stp 1 (i1 := 58) (L1 := [some (.ref 58), some (.ref 10), some (.int (Int32.ofNat t)), some (.int p), some (.int v1), some (.int v2), some (.int v4), some (.int v5)]) (st1 := [.int v5]) (s1 := (uset s 63 t 1)) rfl ?_
      refine mrg (m_cmp .gt v5 0) (20 : Int32) (0 : Int32) (fun v11 : Int32 => UP m_X5_placeBehind 62 [some (.ref 58), some (.ref 10), some (.int (Int32.ofNat t)), some (.int p), some (.int v1), some (.int v2), some (.int v4), some (.int v5)] [.int v11] (uset s 63 t 1) (Qb (let v11 := bif m_cmp .gt v5 0 then (20 : Int32) else (0 : Int32); (v11, (uset s 63 t 1))))) (fun cc kk => ?_) (fun cc kk => ?_) (fun v11 e11 => ?_)
      · skip
        refine UP.ifT rfl cc ?_
        refine UP.stp 1 (i1 := 62) (L1 := [some (.ref 58), some (.ref 10), some (.int (Int32.ofNat t)), some (.int p), some (.int v1), some (.int v2), some (.int v4), some (.int v5)]) (st1 := [.int 20]) (s1 := (uset s 63 t 1)) rfl ?_
        exact kk
      · skip
        refine UP.ifF rfl cc ?_
        refine UP.stp 2 (i1 := 62) (L1 := [some (.ref 58), some (.ref 10), some (.int (Int32.ofNat t)), some (.int p), some (.int v1), some (.int v2), some (.int v4), some (.int v5)]) (st1 := [.int 0]) (s1 := (uset s 63 t 1)) rfl ?_
        exact kk
      exact UP.ret (r := some (.int v11)) rfl ⟨by subst e11 e5 e4 e2 e1; first | (dsimp only [F_placeBehind_c]; done) | (dsimp only; done) | rfl, by subst e11 e5 e4 e2 e1; first | (dsimp only [F_placeBehind_c]; done) | (dsimp only; done) | rfl⟩
    · skip
      refine UP.icF rfl cc ?_
      refine UP.stp 1 (i1 := 51) (L1 := [some (.ref 58), some (.ref 10), some (.int (Int32.ofNat t)), some (.int p), some (.int v1), some (.int v2), some (.int v4), some (.int v5)]) (st1 := [.int v5]) (s1 := s) rfl ?_
      exact UP.ret (r := some (.int v5)) rfl ⟨by subst e5 e4 e2 e1; first | (dsimp only [F_placeBehind_c]; done) | (dsimp only; done) | rfl, by subst e5 e4 e2 e1; first | (dsimp only [F_placeBehind_c]; done) | (dsimp only; done) | rfl⟩
def W_metresIn_c : List (Nat × Nat × Option Nat) := []
def F_metresIn_c (s : SG) (t : Nat) : Int32 := let v1 := ((s 61 t) + (s 62 t)) / 2; let v2 := (((s 13 t) * v1) + (s 10 5)) + (s 95 t); let v3 := bif m_cmp .ne (s 63 t) 1 then v2 else v2 / 2; v3
theorem ux_metresIn_c (s : SG) (t : Nat) (ht : t < 24) : UP m_X5_metresIn 0 (m_ent 5 [.ref 58, .ref 10, .int (Int32.ofNat t)]) [] s (Qi s (F_metresIn_c s t)) := by
  refine UP.stp 3 (i1 := 3) (L1 := [some (.ref 58), some (.ref 10), some (.int (Int32.ofNat t)), none, none]) (st1 := [.int (Int32.ofNat t), .ref 61]) (s1 := s) rfl ?_
  refine UP.ald (e := t) rfl rfl (by omega) ?_
  show UP m_X5_metresIn 4 [some (.ref 58), some (.ref 10), some (.int (Int32.ofNat t)), none, none] [.int (s 61 t)] s (Qi s (F_metresIn_c s t))
  refine UP.stp 3 (i1 := 7) (L1 := [some (.ref 58), some (.ref 10), some (.int (Int32.ofNat t)), none, none]) (st1 := [.int (Int32.ofNat t), .ref 62, .int (s 61 t)]) (s1 := s) rfl ?_
  refine UP.ald (e := t) rfl rfl (by omega) ?_
  show UP m_X5_metresIn 8 [some (.ref 58), some (.ref 10), some (.int (Int32.ofNat t)), none, none] [.int (s 62 t), .int (s 61 t)] s (Qi s (F_metresIn_c s t))
  refine UP.stp 3 (i1 := 11) (L1 := [some (.ref 58), some (.ref 10), some (.int (Int32.ofNat t)), none, none]) (st1 := [.int (((s 61 t) + (s 62 t)) / 2)]) (s1 := s) rfl ?_
  refine nm (G := fun v1 => UP m_X5_metresIn 11 [some (.ref 58), some (.ref 10), some (.int (Int32.ofNat t)), none, none] [.int v1] s (Qi s (F_metresIn_c s t))) (((s 61 t) + (s 62 t)) / 2) (fun v1 e1 => ?_)
  refine UP.stp 4 (i1 := 15) (L1 := [some (.ref 58), some (.ref 10), some (.int (Int32.ofNat t)), some (.int v1), none]) (st1 := [.int (Int32.ofNat t), .ref 13]) (s1 := s) rfl ?_
  refine UP.ald (e := t) rfl rfl (by omega) ?_
  show UP m_X5_metresIn 16 [some (.ref 58), some (.ref 10), some (.int (Int32.ofNat t)), some (.int v1), none] [.int (s 13 t)] s (Qi s (F_metresIn_c s t))
  refine UP.stp 8 (i1 := 24) (L1 := [some (.ref 58), some (.ref 10), some (.int (Int32.ofNat t)), some (.int v1), none]) (st1 := [.int (Int32.ofNat t), .ref 95, .int (((s 13 t) * v1) + (s 10 5))]) (s1 := s) rfl ?_
  refine UP.ald (e := t) rfl rfl (by omega) ?_
  show UP m_X5_metresIn 25 [some (.ref 58), some (.ref 10), some (.int (Int32.ofNat t)), some (.int v1), none] [.int (s 95 t), .int (((s 13 t) * v1) + (s 10 5))] s (Qi s (F_metresIn_c s t))
  refine UP.stp 1 (i1 := 26) (L1 := [some (.ref 58), some (.ref 10), some (.int (Int32.ofNat t)), some (.int v1), none]) (st1 := [.int ((((s 13 t) * v1) + (s 10 5)) + (s 95 t))]) (s1 := s) rfl ?_
  refine nm (G := fun v2 => UP m_X5_metresIn 26 [some (.ref 58), some (.ref 10), some (.int (Int32.ofNat t)), some (.int v1), none] [.int v2] s (Qi s (F_metresIn_c s t))) ((((s 13 t) * v1) + (s 10 5)) + (s 95 t)) (fun v2 e2 => ?_)
  refine UP.stp 4 (i1 := 30) (L1 := [some (.ref 58), some (.ref 10), some (.int (Int32.ofNat t)), some (.int v1), some (.int v2)]) (st1 := [.int (Int32.ofNat t), .ref 63]) (s1 := s) rfl ?_
  refine UP.ald (e := t) rfl rfl (by omega) ?_
  show UP m_X5_metresIn 31 [some (.ref 58), some (.ref 10), some (.int (Int32.ofNat t)), some (.int v1), some (.int v2)] [.int (s 63 t)] s (Qi s (F_metresIn_c s t))
  refine UP.stp 1 (i1 := 32) (L1 := [some (.ref 58), some (.ref 10), some (.int (Int32.ofNat t)), some (.int v1), some (.int v2)]) (st1 := [.int 1, .int (s 63 t)]) (s1 := s) rfl ?_
  refine mrg (m_cmp .ne (s 63 t) 1) v2 (v2 / 2) (fun v3 : Int32 => UP m_X5_metresIn 38 [some (.ref 58), some (.ref 10), some (.int (Int32.ofNat t)), some (.int v1), some (.int v2)] [.int v3] s (Qi s (F_metresIn_c s t))) (fun cc kk => ?_) (fun cc kk => ?_) (fun v3 e3 => ?_)
  · skip
    refine UP.icT rfl cc ?_
    refine UP.stp 1 (i1 := 38) (L1 := [some (.ref 58), some (.ref 10), some (.int (Int32.ofNat t)), some (.int v1), some (.int v2)]) (st1 := [.int v2]) (s1 := s) rfl ?_
    exact kk
  · skip
    refine UP.icF rfl cc ?_
    refine UP.stp 4 (i1 := 38) (L1 := [some (.ref 58), some (.ref 10), some (.int (Int32.ofNat t)), some (.int v1), some (.int v2)]) (st1 := [.int (v2 / 2)]) (s1 := s) rfl ?_
    exact kk
  exact UP.ret (r := some (.int v3)) rfl ⟨by subst e3 e2 e1; first | (dsimp only [F_metresIn_c]; done) | (dsimp only; done) | rfl, by subst e3 e2 e1; first | (dsimp only [F_metresIn_c]; done) | (dsimp only; done) | rfl⟩
def W_row_c : List (Nat × Nat × Option Nat) := [(59, 63, none), (65, 88, none), (89, 95, none), (58, 58, some 8)]
def B_row_c_16  (i3 : Nat) (a3 : SG × Int32 × Int32) : SG × Int32 × Int32 := let z4 := F_pullAll_c (uset a3.1 63 i3 0) i3; let w9 := bif m_cmp .ne (z4 58 8) (-1) then (a3.2.1, a3.2.2, z4) else ((a3.2.1 + (F_metresIn_c (F_placeBehind_c z4 i3 a3.2.2).2 i3)), (F_placeBehind_c z4 i3 a3.2.2).1, (bif m_cmp .lt (a3.2.1 + (F_metresIn_c (F_placeBehind_c z4 i3 a3.2.2).2 i3)) ((F_placeBehind_c z4 i3 a3.2.2).2 10 6) then (F_placeBehind_c z4 i3 a3.2.2).2 else (uset (F_placeBehind_c z4 i3 a3.2.2).2 58 8 (Int32.ofNat i3)))); ((uset (uset w9.2.2 59 i3 w9.1) 60 i3 w9.2.1), w9.1, w9.2.1)
theorem fr_B_row_c_16  (i3 : Nat) (a3 : SG × Int32 × Int32)  (hi3 : i3 < 24) : Fr W_row_c a3.1 ((B_row_c_16) i3 a3).1 := by dsimp only [B_row_c_16]; exact (let z4 : SG := F_pullAll_c (uset a3.1 63 i3 0) i3; (let w9 : Int32 × Int32 × SG := bif m_cmp .ne (z4 58 8) (-1) then (a3.2.1, a3.2.2, z4) else ((a3.2.1 + (F_metresIn_c (F_placeBehind_c z4 i3 a3.2.2).2 i3)), (F_placeBehind_c z4 i3 a3.2.2).1, (bif m_cmp .lt (a3.2.1 + (F_metresIn_c (F_placeBehind_c z4 i3 a3.2.2).2 i3)) ((F_placeBehind_c z4 i3 a3.2.2).2 10 6) then (F_placeBehind_c z4 i3 a3.2.2).2 else (uset (F_placeBehind_c z4 i3 a3.2.2).2 58 8 (Int32.ofNat i3)))); (Fr.uset (s1 := (uset w9.2.2 59 i3 w9.1)) (a := 60) (j := i3) (x := w9.2.1) (by rfl) (Fr.uset (s1 := w9.2.2) (a := 59) (j := i3) (x := w9.1) (by rfl) (Fr.bifp (b := m_cmp .ne (z4 58 8) (-1)) (x := (a3.2.1, a3.2.2, z4)) (y := ((a3.2.1 + (F_metresIn_c (F_placeBehind_c z4 i3 a3.2.2).2 i3)), (F_placeBehind_c z4 i3 a3.2.2).1, (bif m_cmp .lt (a3.2.1 + (F_metresIn_c (F_placeBehind_c z4 i3 a3.2.2).2 i3)) ((F_placeBehind_c z4 i3 a3.2.2).2 10 6) then (F_placeBehind_c z4 i3 a3.2.2).2 else (uset (F_placeBehind_c z4 i3 a3.2.2).2 58 8 (Int32.ofNat i3))))) (fun x : Int32 × Int32 × SG => x.2.2) (by (try dsimp only); exact (Fr.tr (s1 := (uset a3.1 63 i3 0)) (Fr.uset (s1 := a3.1) (a := 63) (j := i3) (x := 0) (by rfl) (Fr.rf _ _)) (Fr.wk (W2 := W_row_c) (fr_pullAll_c (uset a3.1 63 i3 0) i3 hi3) (by rfl)))) (by (try dsimp only); exact (Fr.bif (b := m_cmp .lt (a3.2.1 + (F_metresIn_c (F_placeBehind_c z4 i3 a3.2.2).2 i3)) ((F_placeBehind_c z4 i3 a3.2.2).2 10 6)) (s1 := (F_placeBehind_c z4 i3 a3.2.2).2) (s2 := (uset (F_placeBehind_c z4 i3 a3.2.2).2 58 8 (Int32.ofNat i3))) (Fr.tr (s1 := z4) (Fr.tr (s1 := (uset a3.1 63 i3 0)) (Fr.uset (s1 := a3.1) (a := 63) (j := i3) (x := 0) (by rfl) (Fr.rf _ _)) (Fr.wk (W2 := W_row_c) (fr_pullAll_c (uset a3.1 63 i3 0) i3 hi3) (by rfl))) (Fr.wk (W2 := W_row_c) (fr_placeBehind_c z4 i3 a3.2.2) (by rfl))) (Fr.uset (s1 := (F_placeBehind_c z4 i3 a3.2.2).2) (a := 58) (j := 8) (x := Int32.ofNat i3) (by rfl) (Fr.tr (s1 := z4) (Fr.tr (s1 := (uset a3.1 63 i3 0)) (Fr.uset (s1 := a3.1) (a := 63) (j := i3) (x := 0) (by rfl) (Fr.rf _ _)) (Fr.wk (W2 := W_row_c) (fr_pullAll_c (uset a3.1 63 i3 0) i3 hi3) (by rfl))) (Fr.wk (W2 := W_row_c) (fr_placeBehind_c z4 i3 a3.2.2) (by rfl)))))))))))
def F_row_c (s : SG) (mask : Int32) : SG := let z1 := F_takeEvents_b s mask; let z2 := F_takeRowers_c z1 ; let z3 := itr (B_row_c_16) 0 24 ((uset z2 58 8 (-1)), 0, 10); z3.1
theorem fr_row_c (s : SG) (mask : Int32)  : Fr W_row_c s (F_row_c s mask) := by dsimp only [F_row_c]; exact (let z1 : SG := F_takeEvents_b s mask; (let z2 : SG := F_takeRowers_c z1 ; (frItrB (W := W_row_c) (m := (fun x : SG × Int32 × Int32 => x.1)) (f := (B_row_c_16)) 24 (fun ii aa hh => Fr.wk (W2 := W_row_c) (fr_B_row_c_16  ii aa  hh) (by rfl)) 24 0 ((uset z2 58 8 (-1)), 0, 10) (by omega) (Fr.uset (s1 := z2) (a := 58) (j := 8) (x := (-1)) (by rfl) (Fr.tr (s1 := z1) (Fr.tr (s1 := s) (Fr.rf _ _) (Fr.wk (W2 := W_row_c) (fr_takeEvents_b s mask) (by rfl))) (Fr.wk (W2 := W_row_c) (fr_takeRowers_c z1 ) (by rfl)))))))
theorem ux_row_c (s : SG) (mask : Int32)  : UP m_X5_row 0 (m_ent 7 [.ref 58, .ref 10, .ref 2, .int mask]) [] s (Qv (F_row_c s mask)) := by
  refine UP.stp 3 (i1 := 3) (L1 := [some (.ref 58), some (.ref 10), some (.ref 2), some (.int mask), none, none, none]) (st1 := [.int mask, .ref 2, .ref 58]) (s1 := s) rfl ?_
  refine UP.cV (M1 := m_X5_takeEvents) (as := [.ref 58, .ref 2, .int mask]) (rest := []) (T := F_takeEvents_b s mask) rfl rfl (ux_takeEvents_b s mask) (fun z1 e1 => ?_)
  refine UP.stp 2 (i1 := 6) (L1 := [some (.ref 58), some (.ref 10), some (.ref 2), some (.int mask), none, none, none]) (st1 := [.ref 10, .ref 58]) (s1 := z1) rfl ?_
  refine UP.cV (M1 := m_X5_takeRowers) (as := [.ref 58, .ref 10]) (rest := []) (T := F_takeRowers_c z1 ) rfl rfl (ux_takeRowers_c z1) (fun z2 e2 => ?_)
  refine UP.stp 9 (i1 := 16) (L1 := [some (.ref 58), some (.ref 10), some (.ref 2), some (.int mask), some (.int 0), some (.int 10), some (.int 0)]) (st1 := []) (s1 := (uset z2 58 8 (-1))) rfl ?_
  refine lp (fun (i3 : Nat) (a3 : SG × Int32 × Int32) => ∀ (u3_2 : Option Value) (u3_3 : Option Value), UP m_X5_row 16 [some (.ref 58), some (.ref 10), u3_2, u3_3, some (.int a3.2.1), some (.int a3.2.2), some (.int (Int32.ofNat i3))] [] a3.1 (Qv (F_row_c s mask))) (fun (_ : Nat) (a3 : SG × Int32 × Int32) => Fr W_row_c (uset z2 58 8 (-1)) a3.1) (B_row_c_16) (24) (fun i3 a3 hi3 g3 => g3.tr (fr_B_row_c_16  i3 a3 hi3)) (fun i3 a3 hi3 g3 kk => ?_) 24 (0) ((uset z2 58 8 (-1)), 0, 10) (by  omega) (Fr.rf _ _) (fun z3 e3 g3 => ?_) (some (.ref 2)) (some (.int mask))
  · skip
    intro u3_2 u3_3
    refine UP.stp 2 (i1 := 18) (L1 := [some (.ref 58), some (.ref 10), u3_2, u3_3, some (.int a3.2.1), some (.int a3.2.2), some (.int (Int32.ofNat i3))]) (st1 := [.int 24, .int (Int32.ofNat i3)]) (s1 := a3.1) rfl ?_
    refine UP.icF rfl (ge_F (show i3 < (24 : Int32).toNatClampNeg from hi3)) ?_
    refine UP.stp 4 (i1 := 23) (L1 := [some (.ref 58), some (.ref 10), u3_2, u3_3, some (.int a3.2.1), some (.int a3.2.2), some (.int (Int32.ofNat i3))]) (st1 := [.int 0, .int (Int32.ofNat i3), .ref 63]) (s1 := a3.1) rfl ?_
    refine UP.ast (e := i3) rfl rfl (by omega) ?_
    show UP m_X5_row 24 [some (.ref 58), some (.ref 10), u3_2, u3_3, some (.int a3.2.1), some (.int a3.2.2), some (.int (Int32.ofNat i3))] [] (uset a3.1 63 i3 0) (Qv (F_row_c s mask))
    refine UP.stp 3 (i1 := 27) (L1 := [some (.ref 58), some (.ref 10), u3_2, u3_3, some (.int a3.2.1), some (.int a3.2.2), some (.int (Int32.ofNat i3))]) (st1 := [.int (Int32.ofNat i3), .ref 10, .ref 58]) (s1 := (uset a3.1 63 i3 0)) rfl ?_
    refine UP.cV (M1 := m_X5_pullAll) (as := [.ref 58, .ref 10, .int (Int32.ofNat i3)]) (rest := []) (T := F_pullAll_c (uset a3.1 63 i3 0) i3) rfl rfl (ux_pullAll_c (uset a3.1 63 i3 0) i3 hi3) (fun z4 e4 => ?_)
    refine UP.stp 3 (i1 := 31) (L1 := [some (.ref 58), some (.ref 10), u3_2, u3_3, some (.int a3.2.1), some (.int a3.2.2), some (.int (Int32.ofNat i3))]) (st1 := [.int (-1), .int (z4 58 8)]) (s1 := z4) rfl ?_
    refine mrg (m_cmp .ne (z4 58 8) (-1)) (a3.2.1, a3.2.2, z4) ((a3.2.1 + (F_metresIn_c (F_placeBehind_c z4 i3 a3.2.2).2 i3)), (F_placeBehind_c z4 i3 a3.2.2).1, (bif m_cmp .lt (a3.2.1 + (F_metresIn_c (F_placeBehind_c z4 i3 a3.2.2).2 i3)) ((F_placeBehind_c z4 i3 a3.2.2).2 10 6) then (F_placeBehind_c z4 i3 a3.2.2).2 else (uset (F_placeBehind_c z4 i3 a3.2.2).2 58 8 (Int32.ofNat i3)))) (fun w9 : Int32 × Int32 × SG => UP m_X5_row 52 [some (.ref 58), some (.ref 10), u3_2, u3_3, some (.int w9.1), some (.int w9.2.1), some (.int (Int32.ofNat i3))] [] w9.2.2 (Qv (F_row_c s mask))) (fun cc kk => ?_) (fun cc kk => ?_) (fun w9 e9 => ?_)
    · skip
      refine UP.icT rfl cc ?_
      exact kk
    · skip
      refine UP.icF rfl cc ?_
      refine UP.stp 4 (i1 := 36) (L1 := [some (.ref 58), some (.ref 10), u3_2, u3_3, some (.int a3.2.1), some (.int a3.2.2), some (.int (Int32.ofNat i3))]) (st1 := [.int a3.2.2, .int (Int32.ofNat i3), .ref 10, .ref 58]) (s1 := z4) rfl ?_
      refine UP.cB (M1 := m_X5_placeBehind) (as := [.ref 58, .ref 10, .int (Int32.ofNat i3), .int a3.2.2]) (rest := []) (T := F_placeBehind_c z4 i3 a3.2.2) rfl rfl (ux_placeBehind_c z4 i3 a3.2.2 hi3) (fun z5 e5 => ?_)
      refine UP.stp 5 (i1 := 42) (L1 := [some (.ref 58), some (.ref 10), u3_2, u3_3, some (.int a3.2.1), some (.int z5.1), some (.int (Int32.ofNat i3))]) (st1 := [.int (Int32.ofNat i3), .ref 10, .ref 58, .int a3.2.1]) (s1 := z5.2) rfl ?_
      refine UP.cI (M1 := m_X5_metresIn) (as := [.ref 58, .ref 10, .int (Int32.ofNat i3)]) (rest := [.int a3.2.1]) (T := F_metresIn_c z5.2 i3) rfl rfl (ux_metresIn_c z5.2 i3 hi3) ?_
      refine UP.stp 1 (i1 := 44) (L1 := [some (.ref 58), some (.ref 10), u3_2, u3_3, some (.int a3.2.1), some (.int z5.1), some (.int (Int32.ofNat i3))]) (st1 := [.int (a3.2.1 + (F_metresIn_c z5.2 i3))]) (s1 := z5.2) rfl ?_
      refine nm (G := fun v7 => UP m_X5_row 44 [some (.ref 58), some (.ref 10), u3_2, u3_3, some (.int a3.2.1), some (.int z5.1), some (.int (Int32.ofNat i3))] [.int v7] z5.2 (Qv (F_row_c s mask))) (a3.2.1 + (F_metresIn_c z5.2 i3)) (fun v7 e7 => ?_)
      refine UP.stp 4 (i1 := 48) (L1 := [some (.ref 58), some (.ref 10), u3_2, u3_3, some (.int v7), some (.int z5.1), some (.int (Int32.ofNat i3))]) (st1 := [.int (z5.2 10 6), .int v7]) (s1 := z5.2) rfl ?_
      refine mrg (m_cmp .lt v7 (z5.2 10 6)) z5.2 (uset z5.2 58 8 (Int32.ofNat i3)) (fun v8 : SG => UP m_X5_row 52 [some (.ref 58), some (.ref 10), u3_2, u3_3, some (.int v7), some (.int z5.1), some (.int (Int32.ofNat i3))] [] v8 (Qv (F_row_c s mask))) (fun cc kk => ?_) (fun cc kk => ?_) (fun v8 e8 => ?_)
      · skip
        refine UP.icT rfl cc ?_
        exact kk
      · skip
        refine UP.icF rfl cc ?_
        refine UP.stp 3 (i1 := 52) (L1 := [some (.ref 58), some (.ref 10), u3_2, u3_3, some (.int v7), some (.int z5.1), some (.int (Int32.ofNat i3))]) (st1 := []) (s1 := (uset z5.2 58 8 (Int32.ofNat i3))) rfl ?_
        exact kk
      subst e8 e7 e5
      exact kk
    refine UP.stp 4 (i1 := 56) (L1 := [some (.ref 58), some (.ref 10), u3_2, u3_3, some (.int w9.1), some (.int w9.2.1), some (.int (Int32.ofNat i3))]) (st1 := [.int w9.1, .int (Int32.ofNat i3), .ref 59]) (s1 := w9.2.2) rfl ?_
    refine UP.ast (e := i3) rfl rfl (by omega) ?_
    show UP m_X5_row 57 [some (.ref 58), some (.ref 10), u3_2, u3_3, some (.int w9.1), some (.int w9.2.1), some (.int (Int32.ofNat i3))] [] (uset w9.2.2 59 i3 w9.1) (Qv (F_row_c s mask))
    refine UP.stp 4 (i1 := 61) (L1 := [some (.ref 58), some (.ref 10), u3_2, u3_3, some (.int w9.1), some (.int w9.2.1), some (.int (Int32.ofNat i3))]) (st1 := [.int w9.2.1, .int (Int32.ofNat i3), .ref 60]) (s1 := (uset w9.2.2 59 i3 w9.1)) rfl ?_
    refine UP.ast (e := i3) rfl rfl (by omega) ?_
    show UP m_X5_row 62 [some (.ref 58), some (.ref 10), u3_2, u3_3, some (.int w9.1), some (.int w9.2.1), some (.int (Int32.ofNat i3))] [] (uset (uset w9.2.2 59 i3 w9.1) 60 i3 w9.2.1) (Qv (F_row_c s mask))
    refine UP.stp 2 (i1 := 16) (L1 := [some (.ref 58), some (.ref 10), u3_2, u3_3, some (.int w9.1), some (.int w9.2.1), some (.int ((Int32.ofNat i3) + 1))]) (st1 := []) (s1 := (uset (uset w9.2.2 59 i3 w9.1) 60 i3 w9.2.1)) rfl ?_
    subst e9 e4
    rw [ofn_s]
    try dsimp only [B_row_c_16] at kk
    exact kk _ _
  intro u3_2 u3_3
  refine UP.stp 2 (i1 := 18) (L1 := [some (.ref 58), some (.ref 10), u3_2, u3_3, some (.int z3.2.1), some (.int z3.2.2), some (.int (Int32.ofNat 24))]) (st1 := [.int 24, .int (Int32.ofNat 24)]) (s1 := z3.1) rfl ?_
  refine UP.icT rfl (ge_T (24 : Int32)) ?_
  exact UP.ret (r := none) rfl ⟨by subst e3 e2 e1; first | (dsimp only [F_row_c]; done) | (dsimp only; done) | rfl, by subst e3 e2 e1; first | (dsimp only [F_row_c]; done) | (dsimp only; done) | rfl⟩
end
