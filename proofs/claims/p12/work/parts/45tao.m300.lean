/-! the model: its calls, as functions (printed by wip/u/mk_m3.py) -/
def W_asTold : List (Nat × Nat × Option Nat) := [(126, 129, none), (133, 144, none), (147, 147, none), (123, 123, some 2), (123, 123, some 5), (123, 123, some 7), (123, 123, some 17), (123, 123, some 19), (123, 123, some 20), (123, 123, some 21), (123, 123, some 22), (123, 123, some 23), (123, 123, some 24), (123, 123, some 25), (123, 123, some 26), (123, 123, some 27)]
def B_asTold_4  (i2 : Nat) (a2 : SG) : SG := let v3 := a2 128 i2; let v4 := a2 129 i2; (uset (uset a2 133 i2 v3) 134 i2 v4)
theorem fr_B_asTold_4  (i2 : Nat) (a2 : SG)  (hi2 : i2 < 24) : Fr W_asTold a2 ((B_asTold_4) i2 a2) := by dsimp only [B_asTold_4]; exact (let v3 : Int32 := a2 128 i2; (let v4 : Int32 := a2 129 i2; (Fr.uset (s1 := (uset a2 133 i2 v3)) (a := 134) (j := i2) (x := v4) (by rfl) (Fr.uset (s1 := a2) (a := 133) (j := i2) (x := v3) (by rfl) (Fr.rf _ _)))))
def B_asTold_30  (i5 : Nat) (a5 : SG) : SG := (uset a5 135 i5 (Int32.ofNat i5))
theorem fr_B_asTold_30  (i5 : Nat) (a5 : SG)  (hi5 : i5 < 8) : Fr W_asTold a5 ((B_asTold_30) i5 a5) := by dsimp only [B_asTold_30]; exact (Fr.uset (s1 := a5) (a := 135) (j := i5) (x := Int32.ofNat i5) (by rfl) (Fr.rf _ _))
def F_asTold (s : SG)  : SG := let z1 := F_reads s ; let z2 := itr (B_asTold_4) 0 24 z1; let z5 := itr (B_asTold_30) 0 8 (uset z2 123 17 0); z5
theorem fr_asTold (s : SG)   : Fr W_asTold s (F_asTold s) := by dsimp only [F_asTold]; exact (let z1 : SG := F_reads s ; (let z2 : SG := itr (B_asTold_4) 0 24 z1; (frItrB (W := W_asTold) (m := (fun x : SG => x)) 8 (fun i a h => Fr.wk (W2 := W_asTold) (fr_B_asTold_30  i a  h) (by rfl)) _ _ _ (by omega) (Fr.uset (s1 := z2) (a := 123) (j := 17) (x := 0) (by rfl) (frItrB (W := W_asTold) (m := (fun x : SG => x)) 24 (fun i a h => Fr.wk (W2 := W_asTold) (fr_B_asTold_4  i a  h) (by rfl)) _ _ _ (by omega) (Fr.tr (s1 := s) (Fr.rf _ _) (Fr.wk (W2 := W_asTold) (fr_reads s ) (by rfl))))))))
theorem ux_asTold (s : SG)   : UP m_X7_asTold 0 (m_ent 2 [.ref 123]) [] s (Qv (F_asTold s)) := by
  refine UP.stp 1 (i1 := 1) (L1 := [some (.ref 123), none]) (st1 := [.ref 123]) (s1 := s) rfl ?_
  refine UP.cV (M1 := m_X7_reads) (as := [.ref 123]) (rest := []) (T := F_reads s ) rfl rfl (ux_reads s ) (fun z1 e1 => ?_)
  refine UP.stp 2 (i1 := 4) (L1 := [some (.ref 123), some (.int 0)]) (st1 := []) (s1 := z1) rfl ?_
  refine lp (fun (i2 : Nat) (a2 : SG) => UP m_X7_asTold 4 [some (.ref 123), some (.int (Int32.ofNat i2))] [] a2 (Qv (F_asTold s))) (fun (_ : Nat) (a2 : SG) => Fr W_asTold z1 a2) (B_asTold_4) (24) (fun i2 a2 hi2 g2 => g2.tr (fr_B_asTold_4  i2 a2 hi2)) (fun i2 a2 hi2 g2 kk => ?_) 24 (0) z1 (by omega) (Fr.rf _ _) (fun z2 e2 g2 => ?_)
  · skip
    refine UP.stp 2 (i1 := 6) (L1 := [some (.ref 123), some (.int (Int32.ofNat i2))]) (st1 := [.int 24, .int (Int32.ofNat i2)]) (s1 := a2) rfl ?_
    refine UP.icF rfl (ge_F (show i2 < (24 : Int32).toNatClampNeg from hi2)) ?_
    refine UP.stp 6 (i1 := 13) (L1 := [some (.ref 123), some (.int (Int32.ofNat i2))]) (st1 := [.int (Int32.ofNat i2), .ref 128, .int (Int32.ofNat i2), .ref 133]) (s1 := a2) rfl ?_
    refine UP.ald (e := i2) rfl rfl (by omega) ?_
    show UP m_X7_asTold 14 [some (.ref 123), some (.int (Int32.ofNat i2))] [.int (a2 128 i2), .int (Int32.ofNat i2), .ref 133] a2 (Qv (F_asTold s))
    refine nm (G := fun v3 => UP m_X7_asTold 14 [some (.ref 123), some (.int (Int32.ofNat i2))] [.int v3, .int (Int32.ofNat i2), .ref 133] a2 (Qv (F_asTold s))) (a2 128 i2) (fun v3 e3 => ?_)
    refine UP.ast (e := i2) rfl rfl (by omega) ?_
    show UP m_X7_asTold 15 [some (.ref 123), some (.int (Int32.ofNat i2))] [] (uset a2 133 i2 v3) (Qv (F_asTold s))
    refine UP.stp 6 (i1 := 21) (L1 := [some (.ref 123), some (.int (Int32.ofNat i2))]) (st1 := [.int (Int32.ofNat i2), .ref 129, .int (Int32.ofNat i2), .ref 134]) (s1 := (uset a2 133 i2 v3)) rfl ?_
    refine UP.ald (e := i2) rfl rfl (by omega) ?_
    show UP m_X7_asTold 22 [some (.ref 123), some (.int (Int32.ofNat i2))] [.int (a2 129 i2), .int (Int32.ofNat i2), .ref 134] (uset a2 133 i2 v3) (Qv (F_asTold s))
    refine nm (G := fun v4 => UP m_X7_asTold 22 [some (.ref 123), some (.int (Int32.ofNat i2))] [.int v4, .int (Int32.ofNat i2), .ref 134] (uset a2 133 i2 v3) (Qv (F_asTold s))) (a2 129 i2) (fun v4 e4 => ?_)
    refine UP.ast (e := i2) rfl rfl (by omega) ?_
    show UP m_X7_asTold 23 [some (.ref 123), some (.int (Int32.ofNat i2))] [] (uset (uset a2 133 i2 v3) 134 i2 v4) (Qv (F_asTold s))
    refine UP.stp 2 (i1 := 4) (L1 := [some (.ref 123), some (.int ((Int32.ofNat i2) + 1))]) (st1 := []) (s1 := (uset (uset a2 133 i2 v3) 134 i2 v4)) rfl ?_
    subst e4 e3
    rw [ofn_s]
    exact kk
  refine UP.stp 2 (i1 := 6) (L1 := [some (.ref 123), some (.int (Int32.ofNat 24))]) (st1 := [.int 24, .int (Int32.ofNat 24)]) (s1 := z2) rfl ?_
  refine UP.icT rfl (ge_T (24 : Int32)) ?_
  refine UP.stp 5 (i1 := 30) (L1 := [some (.ref 123), some (.int 0)]) (st1 := []) (s1 := (uset z2 123 17 0)) rfl ?_
  refine lp (fun (i5 : Nat) (a5 : SG) => UP m_X7_asTold 30 [some (.ref 123), some (.int (Int32.ofNat i5))] [] a5 (Qv (F_asTold s))) (fun (_ : Nat) (a5 : SG) => Fr W_asTold (uset z2 123 17 0) a5) (B_asTold_30) (8) (fun i5 a5 hi5 g5 => g5.tr (fr_B_asTold_30  i5 a5 hi5)) (fun i5 a5 hi5 g5 kk => ?_) 8 (0) (uset z2 123 17 0) (by omega) (Fr.rf _ _) (fun z5 e5 g5 => ?_)
  · skip
    refine UP.stp 2 (i1 := 32) (L1 := [some (.ref 123), some (.int (Int32.ofNat i5))]) (st1 := [.int 8, .int (Int32.ofNat i5)]) (s1 := a5) rfl ?_
    refine UP.icF rfl (ge_F (show i5 < (8 : Int32).toNatClampNeg from hi5)) ?_
    refine UP.stp 4 (i1 := 37) (L1 := [some (.ref 123), some (.int (Int32.ofNat i5))]) (st1 := [.int (Int32.ofNat i5), .int (Int32.ofNat i5), .ref 135]) (s1 := a5) rfl ?_
    refine UP.ast (e := i5) rfl rfl (by omega) ?_
    show UP m_X7_asTold 38 [some (.ref 123), some (.int (Int32.ofNat i5))] [] (uset a5 135 i5 (Int32.ofNat i5)) (Qv (F_asTold s))
    refine UP.stp 2 (i1 := 30) (L1 := [some (.ref 123), some (.int ((Int32.ofNat i5) + 1))]) (st1 := []) (s1 := (uset a5 135 i5 (Int32.ofNat i5))) rfl ?_
    rw [ofn_s]
    exact kk
  refine UP.stp 2 (i1 := 32) (L1 := [some (.ref 123), some (.int (Int32.ofNat 8))]) (st1 := [.int 8, .int (Int32.ofNat 8)]) (s1 := z5) rfl ?_
  refine UP.icT rfl (ge_T (8 : Int32)) ?_
  exact UP.ret (r := none) rfl ⟨by subst e5 e2 e1; rfl, by subst e5 e2 e1; rfl⟩
def W_runsTold : List (Nat × Nat × Option Nat) := [(126, 129, none), (133, 144, none), (147, 147, none), (123, 123, some 2), (123, 123, some 5), (123, 123, some 7), (123, 123, some 17), (123, 123, some 19), (123, 123, some 20), (123, 123, some 21), (123, 123, some 22), (123, 123, some 23), (123, 123, some 24), (123, 123, some 25), (123, 123, some 26), (123, 123, some 27)]
def F_runsTold (s : SG)  : SG := let z1 := F_asTold s ; let z2 := F_runs z1 ; z2
theorem fr_runsTold (s : SG)   : Fr W_runsTold s (F_runsTold s) := by dsimp only [F_runsTold]; exact (let z1 : SG := F_asTold s ; (Fr.tr (s1 := z1) (Fr.tr (s1 := s) (Fr.rf _ _) (Fr.wk (W2 := W_runsTold) (fr_asTold s ) (by rfl))) (Fr.wk (W2 := W_runsTold) (fr_runs z1 ) (by rfl))))
theorem ux_runsTold (s : SG)   : UP m_X7_runsTold 0 (m_ent 1 [.ref 123]) [] s (Qv (F_runsTold s)) := by
  refine UP.stp 1 (i1 := 1) (L1 := [some (.ref 123)]) (st1 := [.ref 123]) (s1 := s) rfl ?_
  refine UP.cV (M1 := m_X7_asTold) (as := [.ref 123]) (rest := []) (T := F_asTold s ) rfl rfl (ux_asTold s ) (fun z1 e1 => ?_)
  refine UP.stp 1 (i1 := 3) (L1 := [some (.ref 123)]) (st1 := [.ref 123]) (s1 := z1) rfl ?_
  refine UP.cV (M1 := m_X7_runs) (as := [.ref 123]) (rest := []) (T := F_runs z1 ) rfl rfl (ux_runs z1 ) (fun z2 e2 => ?_)
  exact UP.ret (r := none) rfl ⟨by subst e2 e1; rfl, by subst e2 e1; rfl⟩
def W_atOf : List (Nat × Nat × Option Nat) := [(126, 129, none), (133, 144, none), (147, 147, none), (123, 123, some 2), (123, 123, some 5), (123, 123, some 7), (123, 123, some 17), (123, 123, some 19), (123, 123, some 20), (123, 123, some 21), (123, 123, some 22), (123, 123, some 23), (123, 123, some 24), (123, 123, some 25), (123, 123, some 26), (123, 123, some 27)]
def F_atOf (s : SG) (minute : Int32) (what : Int32) : Int32 × SG := let z1 := F_runsTold s ; bif m_cmp .eq what 0 then ((z1 139 minute.toNatClampNeg, z1)) else (bif m_cmp .eq what 1 then ((z1 140 minute.toNatClampNeg, z1)) else (bif m_cmp .eq what 2 then ((z1 141 ((2 * minute).toNatClampNeg), z1)) else (bif m_cmp .eq what 3 then ((z1 141 (((2 * minute) + 1).toNatClampNeg), z1)) else ((z1 142 minute.toNatClampNeg, z1)))))
theorem fr_atOf (s : SG) (minute : Int32) (what : Int32)  : Fr W_atOf s (F_atOf s minute what).2 := by dsimp only [F_atOf]; exact (let z1 : SG := F_runsTold s ; (Fr.bifp (b := m_cmp .eq what 0) (x := (z1 139 minute.toNatClampNeg, z1)) (y := bif m_cmp .eq what 1 then ((z1 140 minute.toNatClampNeg, z1)) else (bif m_cmp .eq what 2 then ((z1 141 ((2 * minute).toNatClampNeg), z1)) else (bif m_cmp .eq what 3 then ((z1 141 (((2 * minute) + 1).toNatClampNeg), z1)) else ((z1 142 minute.toNatClampNeg, z1))))) (fun x : Int32 × SG => x.2) (Fr.tr (s1 := s) (Fr.rf _ _) (Fr.wk (W2 := W_atOf) (fr_runsTold s ) (by rfl))) (Fr.bifp (b := m_cmp .eq what 1) (x := (z1 140 minute.toNatClampNeg, z1)) (y := bif m_cmp .eq what 2 then ((z1 141 ((2 * minute).toNatClampNeg), z1)) else (bif m_cmp .eq what 3 then ((z1 141 (((2 * minute) + 1).toNatClampNeg), z1)) else ((z1 142 minute.toNatClampNeg, z1)))) (fun x : Int32 × SG => x.2) (Fr.tr (s1 := s) (Fr.rf _ _) (Fr.wk (W2 := W_atOf) (fr_runsTold s ) (by rfl))) (Fr.bifp (b := m_cmp .eq what 2) (x := (z1 141 ((2 * minute).toNatClampNeg), z1)) (y := bif m_cmp .eq what 3 then ((z1 141 (((2 * minute) + 1).toNatClampNeg), z1)) else ((z1 142 minute.toNatClampNeg, z1))) (fun x : Int32 × SG => x.2) (Fr.tr (s1 := s) (Fr.rf _ _) (Fr.wk (W2 := W_atOf) (fr_runsTold s ) (by rfl))) (Fr.bifp (b := m_cmp .eq what 3) (x := (z1 141 (((2 * minute) + 1).toNatClampNeg), z1)) (y := (z1 142 minute.toNatClampNeg, z1)) (fun x : Int32 × SG => x.2) (Fr.tr (s1 := s) (Fr.rf _ _) (Fr.wk (W2 := W_atOf) (fr_runsTold s ) (by rfl))) (Fr.tr (s1 := s) (Fr.rf _ _) (Fr.wk (W2 := W_atOf) (fr_runsTold s ) (by rfl))))))))
theorem ux_atOf (s : SG) (minute : Int32) (what : Int32)  : UP m_X7_atOf 0 (m_ent 3 [.ref 123, .int minute, .int what]) [] s (Qb (F_atOf s minute what)) := by
  refine UP.stp 1 (i1 := 1) (L1 := [some (.ref 123), some (.int minute), some (.int what)]) (st1 := [.ref 123]) (s1 := s) rfl ?_
  refine UP.cV (M1 := m_X7_runsTold) (as := [.ref 123]) (rest := []) (T := F_runsTold s ) rfl rfl (ux_runsTold s ) (fun z1 e1 => ?_)
  refine UP.stp 1 (i1 := 3) (L1 := [some (.ref 123), some (.int minute), some (.int what)]) (st1 := [.int what]) (s1 := z1) rfl ?_
  refine UP.spl (m_cmp .eq what 0) ((z1 139 minute.toNatClampNeg, z1)) (bif m_cmp .eq what 1 then ((z1 140 minute.toNatClampNeg, z1)) else (bif m_cmp .eq what 2 then ((z1 141 ((2 * minute).toNatClampNeg), z1)) else (bif m_cmp .eq what 3 then ((z1 141 (((2 * minute) + 1).toNatClampNeg), z1)) else ((z1 142 minute.toNatClampNeg, z1))))) (by subst e1; rfl) (fun cs0 => ?_) (fun cs0 => ?_)
  · skip
    refine UP.swT 0 rfl cs0 (by decide) (by decide) ?_
    refine UP.stp 4 (i1 := 8) (L1 := [some (.ref 123), some (.int minute), some (.int what)]) (st1 := [.int (z1 139 minute.toNatClampNeg)]) (s1 := z1) rfl ?_
    exact UP.ret (r := some (.int (z1 139 minute.toNatClampNeg))) rfl ⟨by subst e1; rfl, by subst e1; rfl⟩
  · skip
    refine UP.spl (m_cmp .eq what 1) ((z1 140 minute.toNatClampNeg, z1)) (bif m_cmp .eq what 2 then ((z1 141 ((2 * minute).toNatClampNeg), z1)) else (bif m_cmp .eq what 3 then ((z1 141 (((2 * minute) + 1).toNatClampNeg), z1)) else ((z1 142 minute.toNatClampNeg, z1)))) (by subst e1; rfl) (fun cs1 => ?_) (fun cs1 => ?_)
    · skip
      refine UP.swT 1 rfl cs1 (by decide) (by decide) ?_
      refine UP.stp 4 (i1 := 13) (L1 := [some (.ref 123), some (.int minute), some (.int what)]) (st1 := [.int (z1 140 minute.toNatClampNeg)]) (s1 := z1) rfl ?_
      exact UP.ret (r := some (.int (z1 140 minute.toNatClampNeg))) rfl ⟨by subst e1; rfl, by subst e1; rfl⟩
    · skip
      refine UP.spl (m_cmp .eq what 2) ((z1 141 ((2 * minute).toNatClampNeg), z1)) (bif m_cmp .eq what 3 then ((z1 141 (((2 * minute) + 1).toNatClampNeg), z1)) else ((z1 142 minute.toNatClampNeg, z1))) (by subst e1; rfl) (fun cs2 => ?_) (fun cs2 => ?_)
      · skip
        refine UP.swT 2 rfl cs2 (by decide) (by decide) ?_
        refine UP.stp 6 (i1 := 20) (L1 := [some (.ref 123), some (.int minute), some (.int what)]) (st1 := [.int (z1 141 ((2 * minute).toNatClampNeg))]) (s1 := z1) rfl ?_
        exact UP.ret (r := some (.int (z1 141 ((2 * minute).toNatClampNeg)))) rfl ⟨by subst e1; rfl, by subst e1; rfl⟩
      · skip
        refine UP.spl (m_cmp .eq what 3) ((z1 141 (((2 * minute) + 1).toNatClampNeg), z1)) ((z1 142 minute.toNatClampNeg, z1)) (by subst e1; rfl) (fun cs3 => ?_) (fun cs3 => ?_)
        · skip
          refine UP.swT 3 rfl cs3 (by decide) (by decide) ?_
          refine UP.stp 8 (i1 := 29) (L1 := [some (.ref 123), some (.int minute), some (.int what)]) (st1 := [.int (z1 141 (((2 * minute) + 1).toNatClampNeg))]) (s1 := z1) rfl ?_
          exact UP.ret (r := some (.int (z1 141 (((2 * minute) + 1).toNatClampNeg)))) rfl ⟨by subst e1; rfl, by subst e1; rfl⟩
        · skip
          refine UP.swD rfl (by have c0_ : what.toInt ≠ 0 := ne_int cs0; have c1_ : what.toInt ≠ 1 := ne_int cs1; have c2_ : what.toInt ≠ 2 := ne_int cs2; have c3_ : what.toInt ≠ 3 := ne_int cs3; omega) ?_
          refine UP.stp 4 (i1 := 34) (L1 := [some (.ref 123), some (.int minute), some (.int what)]) (st1 := [.int (z1 142 minute.toNatClampNeg)]) (s1 := z1) rfl ?_
          exact UP.ret (r := some (.int (z1 142 minute.toNatClampNeg))) rfl ⟨by subst e1; rfl, by subst e1; rfl⟩
def W_at : List (Nat × Nat × Option Nat) := [(126, 129, none), (133, 144, none), (147, 147, none), (123, 123, some 2), (123, 123, some 5), (123, 123, some 7), (123, 123, some 17), (123, 123, some 19), (123, 123, some 20), (123, 123, some 21), (123, 123, some 22), (123, 123, some 23), (123, 123, some 24), (123, 123, some 25), (123, 123, some 26), (123, 123, some 27)]
def F_at (s : SG) (minute : Int32) (what : Int32) : Int32 × SG := let w5 := bif m_cmp .eq (F_isMinute s minute) 0 then ((-2 : Int32), s) else (bif m_cmp .eq (F_in s what 0 4) 0 then ((-2 : Int32), s) else (F_atOf s minute what)); w5
theorem fr_at (s : SG) (minute : Int32) (what : Int32)  : Fr W_at s (F_at s minute what).2 := by dsimp only [F_at]; exact (Fr.bifp (b := m_cmp .eq (F_isMinute s minute) 0) (x := ((-2 : Int32), s)) (y := (bif m_cmp .eq (F_in s what 0 4) 0 then ((-2 : Int32), s) else (F_atOf s minute what))) (fun x : Int32 × SG => x.2) (Fr.rf _ _) (Fr.bifp (b := m_cmp .eq (F_in s what 0 4) 0) (x := ((-2 : Int32), s)) (y := (F_atOf s minute what)) (fun x : Int32 × SG => x.2) (Fr.rf _ _) (Fr.tr (s1 := s) (Fr.rf _ _) (Fr.wk (W2 := W_at) (fr_atOf s minute what) (by rfl)))))
theorem ux_at (s : SG) (minute : Int32) (what : Int32)  : UP m_X7_at 0 (m_ent 3 [.ref 123, .int minute, .int what]) [] s (Qb (F_at s minute what)) := by
  refine UP.stp 1 (i1 := 1) (L1 := [some (.ref 123), some (.int minute), some (.int what)]) (st1 := [.int minute]) (s1 := s) rfl ?_
  refine UP.cI (M1 := m_X7_isMinute) (as := [.int minute]) (rest := []) (T := F_isMinute s minute) rfl rfl (ux_isMinute s minute) ?_
  refine mrg (m_cmp .eq (F_isMinute s minute) 0) ((-2 : Int32), s) (bif m_cmp .eq (F_in s what 0 4) 0 then ((-2 : Int32), s) else (F_atOf s minute what)) (fun w5 : Int32 × SG => UP m_X7_at 14 [some (.ref 123), some (.int minute), some (.int what)] [.int w5.1] w5.2 (Qb (F_at s minute what))) (fun cc kk => ?_) (fun cc kk => ?_) (fun w5 e5 => ?_)
  · skip
    refine UP.ifT rfl cc ?_
    refine UP.stp 1 (i1 := 14) (L1 := [some (.ref 123), some (.int minute), some (.int what)]) (st1 := [.int (-2)]) (s1 := s) rfl ?_
    exact kk
  · skip
    refine UP.ifF rfl cc ?_
    refine UP.stp 3 (i1 := 6) (L1 := [some (.ref 123), some (.int minute), some (.int what)]) (st1 := [.int 4, .int 0, .int what]) (s1 := s) rfl ?_
    refine UP.cI (M1 := m_X7_in) (as := [.int what, .int 0, .int 4]) (rest := []) (T := F_in s what 0 4) rfl rfl (ux_in s what 0 4) ?_
    refine mrg (m_cmp .eq (F_in s what 0 4) 0) ((-2 : Int32), s) (F_atOf s minute what) (fun w4 : Int32 × SG => UP m_X7_at 14 [some (.ref 123), some (.int minute), some (.int what)] [.int w4.1] w4.2 (Qb (F_at s minute what))) (fun cc kk => ?_) (fun cc kk => ?_) (fun w4 e4 => ?_)
    · skip
      refine UP.ifT rfl cc ?_
      refine UP.stp 1 (i1 := 14) (L1 := [some (.ref 123), some (.int minute), some (.int what)]) (st1 := [.int (-2)]) (s1 := s) rfl ?_
      exact kk
    · skip
      refine UP.ifF rfl cc ?_
      refine UP.stp 3 (i1 := 11) (L1 := [some (.ref 123), some (.int minute), some (.int what)]) (st1 := [.int what, .int minute, .ref 123]) (s1 := s) rfl ?_
      refine UP.cB (M1 := m_X7_atOf) (as := [.ref 123, .int minute, .int what]) (rest := []) (T := F_atOf s minute what) rfl rfl (ux_atOf s minute what) (fun z3 e3 => ?_)
      refine UP.stp 1 (i1 := 14) (L1 := [some (.ref 123), some (.int minute), some (.int what)]) (st1 := [.int z3.1]) (s1 := z3.2) rfl ?_
      subst e3
      exact kk
    subst e4
    exact kk
  exact UP.ret (r := some (.int w5.1)) rfl ⟨by subst e5; rfl, by subst e5; rfl⟩
def W_pullsOf : List (Nat × Nat × Option Nat) := [(126, 129, none), (133, 144, none), (147, 147, none), (123, 123, some 2), (123, 123, some 5), (123, 123, some 7), (123, 123, some 17), (123, 123, some 19), (123, 123, some 20), (123, 123, some 21), (123, 123, some 22), (123, 123, some 23), (123, 123, some 24), (123, 123, some 25), (123, 123, some 26), (123, 123, some 27)]
def F_pullsOf (s : SG) (minute : Int32) (k : Int32) : Int32 × SG := let z1 := F_runsTold s ; (z1 143 (((8 * minute) + k).toNatClampNeg), z1)
theorem fr_pullsOf (s : SG) (minute : Int32) (k : Int32)  : Fr W_pullsOf s (F_pullsOf s minute k).2 := by dsimp only [F_pullsOf]; exact (Fr.tr (s1 := s) (Fr.rf _ _) (Fr.wk (W2 := W_pullsOf) (fr_runsTold s ) (by rfl)))
theorem ux_pullsOf (s : SG) (minute : Int32) (k : Int32)  : UP m_X7_pullsOf 0 (m_ent 3 [.ref 123, .int minute, .int k]) [] s (Qb (F_pullsOf s minute k)) := by
  refine UP.stp 1 (i1 := 1) (L1 := [some (.ref 123), some (.int minute), some (.int k)]) (st1 := [.ref 123]) (s1 := s) rfl ?_
  refine UP.cV (M1 := m_X7_runsTold) (as := [.ref 123]) (rest := []) (T := F_runsTold s ) rfl rfl (ux_runsTold s ) (fun z1 e1 => ?_)
  refine UP.stp 8 (i1 := 10) (L1 := [some (.ref 123), some (.int minute), some (.int k)]) (st1 := [.int (z1 143 (((8 * minute) + k).toNatClampNeg))]) (s1 := z1) rfl ?_
  exact UP.ret (r := some (.int (z1 143 (((8 * minute) + k).toNatClampNeg)))) rfl ⟨by subst e1; rfl, by subst e1; rfl⟩
def W_pulls : List (Nat × Nat × Option Nat) := [(126, 129, none), (133, 144, none), (147, 147, none), (123, 123, some 2), (123, 123, some 5), (123, 123, some 7), (123, 123, some 17), (123, 123, some 19), (123, 123, some 20), (123, 123, some 21), (123, 123, some 22), (123, 123, some 23), (123, 123, some 24), (123, 123, some 25), (123, 123, some 26), (123, 123, some 27)]
def F_pulls (s : SG) (minute : Int32) (seat : Int32) : Int32 × SG := let w5 := bif m_cmp .eq (F_isMinute s minute) 0 then ((-2 : Int32), s) else (bif m_cmp .eq (F_isRower s seat).1 0 then ((-2 : Int32), (F_isRower s seat).2) else (F_pullsOf (F_isRower s seat).2 minute seat)); w5
theorem fr_pulls (s : SG) (minute : Int32) (seat : Int32)  : Fr W_pulls s (F_pulls s minute seat).2 := by dsimp only [F_pulls]; exact (Fr.bifp (b := m_cmp .eq (F_isMinute s minute) 0) (x := ((-2 : Int32), s)) (y := (bif m_cmp .eq (F_isRower s seat).1 0 then ((-2 : Int32), (F_isRower s seat).2) else (F_pullsOf (F_isRower s seat).2 minute seat))) (fun x : Int32 × SG => x.2) (Fr.rf _ _) (Fr.bifp (b := m_cmp .eq (F_isRower s seat).1 0) (x := ((-2 : Int32), (F_isRower s seat).2)) (y := (F_pullsOf (F_isRower s seat).2 minute seat)) (fun x : Int32 × SG => x.2) (Fr.tr (s1 := s) (Fr.rf _ _) (Fr.wk (W2 := W_pulls) (fr_isRower s seat) (by rfl))) (Fr.tr (s1 := (F_isRower s seat).2) (Fr.tr (s1 := s) (Fr.rf _ _) (Fr.wk (W2 := W_pulls) (fr_isRower s seat) (by rfl))) (Fr.wk (W2 := W_pulls) (fr_pullsOf (F_isRower s seat).2 minute seat) (by rfl)))))
theorem ux_pulls (s : SG) (minute : Int32) (seat : Int32)  : UP m_X7_pulls 0 (m_ent 3 [.ref 123, .int minute, .int seat]) [] s (Qb (F_pulls s minute seat)) := by
  refine UP.stp 1 (i1 := 1) (L1 := [some (.ref 123), some (.int minute), some (.int seat)]) (st1 := [.int minute]) (s1 := s) rfl ?_
  refine UP.cI (M1 := m_X7_isMinute) (as := [.int minute]) (rest := []) (T := F_isMinute s minute) rfl rfl (ux_isMinute s minute) ?_
  refine mrg (m_cmp .eq (F_isMinute s minute) 0) ((-2 : Int32), s) (bif m_cmp .eq (F_isRower s seat).1 0 then ((-2 : Int32), (F_isRower s seat).2) else (F_pullsOf (F_isRower s seat).2 minute seat)) (fun w5 : Int32 × SG => UP m_X7_pulls 13 [some (.ref 123), some (.int minute), some (.int seat)] [.int w5.1] w5.2 (Qb (F_pulls s minute seat))) (fun cc kk => ?_) (fun cc kk => ?_) (fun w5 e5 => ?_)
  · skip
    refine UP.ifT rfl cc ?_
    refine UP.stp 1 (i1 := 13) (L1 := [some (.ref 123), some (.int minute), some (.int seat)]) (st1 := [.int (-2)]) (s1 := s) rfl ?_
    exact kk
  · skip
    refine UP.ifF rfl cc ?_
    refine UP.stp 2 (i1 := 5) (L1 := [some (.ref 123), some (.int minute), some (.int seat)]) (st1 := [.int seat, .ref 123]) (s1 := s) rfl ?_
    refine UP.cB (M1 := m_X7_isRower) (as := [.ref 123, .int seat]) (rest := []) (T := F_isRower s seat) rfl rfl (ux_isRower s seat) (fun z2 e2 => ?_)
    refine mrg (m_cmp .eq z2.1 0) ((-2 : Int32), z2.2) (F_pullsOf z2.2 minute seat) (fun w4 : Int32 × SG => UP m_X7_pulls 13 [some (.ref 123), some (.int minute), some (.int seat)] [.int w4.1] w4.2 (Qb (F_pulls s minute seat))) (fun cc kk => ?_) (fun cc kk => ?_) (fun w4 e4 => ?_)
    · skip
      refine UP.ifT rfl cc ?_
      refine UP.stp 1 (i1 := 13) (L1 := [some (.ref 123), some (.int minute), some (.int seat)]) (st1 := [.int (-2)]) (s1 := z2.2) rfl ?_
      exact kk
    · skip
      refine UP.ifF rfl cc ?_
      refine UP.stp 3 (i1 := 10) (L1 := [some (.ref 123), some (.int minute), some (.int seat)]) (st1 := [.int seat, .int minute, .ref 123]) (s1 := z2.2) rfl ?_
      refine UP.cB (M1 := m_X7_pullsOf) (as := [.ref 123, .int minute, .int seat]) (rest := []) (T := F_pullsOf z2.2 minute seat) rfl rfl (ux_pullsOf z2.2 minute seat) (fun z3 e3 => ?_)
      refine UP.stp 1 (i1 := 13) (L1 := [some (.ref 123), some (.int minute), some (.int seat)]) (st1 := [.int z3.1]) (s1 := z3.2) rfl ?_
      subst e3
      exact kk
    subst e4 e2
    exact kk
  exact UP.ret (r := some (.int w5.1)) rfl ⟨by subst e5; rfl, by subst e5; rfl⟩
def W_doneOf : List (Nat × Nat × Option Nat) := [(126, 129, none), (133, 144, none), (147, 147, none), (123, 123, some 2), (123, 123, some 5), (123, 123, some 7), (123, 123, some 17), (123, 123, some 19), (123, 123, some 20), (123, 123, some 21), (123, 123, some 22), (123, 123, some 23), (123, 123, some 24), (123, 123, some 25), (123, 123, some 26), (123, 123, some 27)]
def F_doneOf (s : SG) (k : Int32) (what : Int32) : Int32 × SG := let z1 := F_runsTold s ; let v2 := bif m_cmp .ne what 0 then z1 138 k.toNatClampNeg else z1 137 k.toNatClampNeg; (v2, z1)
theorem fr_doneOf (s : SG) (k : Int32) (what : Int32)  : Fr W_doneOf s (F_doneOf s k what).2 := by dsimp only [F_doneOf]; exact (Fr.tr (s1 := s) (Fr.rf _ _) (Fr.wk (W2 := W_doneOf) (fr_runsTold s ) (by rfl)))
theorem ux_doneOf (s : SG) (k : Int32) (what : Int32)  : UP m_X7_doneOf 0 (m_ent 3 [.ref 123, .int k, .int what]) [] s (Qb (F_doneOf s k what)) := by
  refine UP.stp 1 (i1 := 1) (L1 := [some (.ref 123), some (.int k), some (.int what)]) (st1 := [.ref 123]) (s1 := s) rfl ?_
  refine UP.cV (M1 := m_X7_runsTold) (as := [.ref 123]) (rest := []) (T := F_runsTold s ) rfl rfl (ux_runsTold s ) (fun z1 e1 => ?_)
  refine UP.stp 1 (i1 := 3) (L1 := [some (.ref 123), some (.int k), some (.int what)]) (st1 := [.int what]) (s1 := z1) rfl ?_
  refine mrg (m_cmp .ne what 0) (z1 138 k.toNatClampNeg) (z1 137 k.toNatClampNeg) (fun v2 : Int32 => UP m_X7_doneOf 13 [some (.ref 123), some (.int k), some (.int what)] [.int v2] z1 (Qb (F_doneOf s k what))) (fun cc kk => ?_) (fun cc kk => ?_) (fun v2 e2 => ?_)
  · skip
    refine UP.ifT rfl cc ?_
    refine UP.stp 4 (i1 := 13) (L1 := [some (.ref 123), some (.int k), some (.int what)]) (st1 := [.int (z1 138 k.toNatClampNeg)]) (s1 := z1) rfl ?_
    exact kk
  · skip
    refine UP.ifF rfl cc ?_
    refine UP.stp 5 (i1 := 13) (L1 := [some (.ref 123), some (.int k), some (.int what)]) (st1 := [.int (z1 137 k.toNatClampNeg)]) (s1 := z1) rfl ?_
    exact kk
  exact UP.ret (r := some (.int v2)) rfl ⟨by subst e2 e1; rfl, by subst e2 e1; rfl⟩
def W_done : List (Nat × Nat × Option Nat) := [(126, 129, none), (133, 144, none), (147, 147, none), (123, 123, some 2), (123, 123, some 5), (123, 123, some 7), (123, 123, some 17), (123, 123, some 19), (123, 123, some 20), (123, 123, some 21), (123, 123, some 22), (123, 123, some 23), (123, 123, some 24), (123, 123, some 25), (123, 123, some 26), (123, 123, some 27)]
def F_done (s : SG) (seat : Int32) (what : Int32) : Int32 × SG := let z1 := F_isRower s seat; let w5 := bif m_cmp .eq z1.1 0 then ((-2 : Int32), z1.2) else (bif m_cmp .eq (F_isTwo z1.2 what) 0 then ((-2 : Int32), z1.2) else (F_doneOf z1.2 seat what)); w5
theorem fr_done (s : SG) (seat : Int32) (what : Int32)  : Fr W_done s (F_done s seat what).2 := by dsimp only [F_done]; exact (let z1 : Int32 × SG := F_isRower s seat; (Fr.bifp (b := m_cmp .eq z1.1 0) (x := ((-2 : Int32), z1.2)) (y := (bif m_cmp .eq (F_isTwo z1.2 what) 0 then ((-2 : Int32), z1.2) else (F_doneOf z1.2 seat what))) (fun x : Int32 × SG => x.2) (Fr.tr (s1 := s) (Fr.rf _ _) (Fr.wk (W2 := W_done) (fr_isRower s seat) (by rfl))) (Fr.bifp (b := m_cmp .eq (F_isTwo z1.2 what) 0) (x := ((-2 : Int32), z1.2)) (y := (F_doneOf z1.2 seat what)) (fun x : Int32 × SG => x.2) (Fr.tr (s1 := s) (Fr.rf _ _) (Fr.wk (W2 := W_done) (fr_isRower s seat) (by rfl))) (Fr.tr (s1 := z1.2) (Fr.tr (s1 := s) (Fr.rf _ _) (Fr.wk (W2 := W_done) (fr_isRower s seat) (by rfl))) (Fr.wk (W2 := W_done) (fr_doneOf z1.2 seat what) (by rfl))))))
theorem ux_done (s : SG) (seat : Int32) (what : Int32)  : UP m_X7_done 0 (m_ent 3 [.ref 123, .int seat, .int what]) [] s (Qb (F_done s seat what)) := by
  refine UP.stp 2 (i1 := 2) (L1 := [some (.ref 123), some (.int seat), some (.int what)]) (st1 := [.int seat, .ref 123]) (s1 := s) rfl ?_
  refine UP.cB (M1 := m_X7_isRower) (as := [.ref 123, .int seat]) (rest := []) (T := F_isRower s seat) rfl rfl (ux_isRower s seat) (fun z1 e1 => ?_)
  refine mrg (m_cmp .eq z1.1 0) ((-2 : Int32), z1.2) (bif m_cmp .eq (F_isTwo z1.2 what) 0 then ((-2 : Int32), z1.2) else (F_doneOf z1.2 seat what)) (fun w5 : Int32 × SG => UP m_X7_done 13 [some (.ref 123), some (.int seat), some (.int what)] [.int w5.1] w5.2 (Qb (F_done s seat what))) (fun cc kk => ?_) (fun cc kk => ?_) (fun w5 e5 => ?_)
  · skip
    refine UP.ifT rfl cc ?_
    refine UP.stp 1 (i1 := 13) (L1 := [some (.ref 123), some (.int seat), some (.int what)]) (st1 := [.int (-2)]) (s1 := z1.2) rfl ?_
    exact kk
  · skip
    refine UP.ifF rfl cc ?_
    refine UP.stp 1 (i1 := 5) (L1 := [some (.ref 123), some (.int seat), some (.int what)]) (st1 := [.int what]) (s1 := z1.2) rfl ?_
    refine UP.cI (M1 := m_X7_isTwo) (as := [.int what]) (rest := []) (T := F_isTwo z1.2 what) rfl rfl (ux_isTwo z1.2 what) ?_
    refine mrg (m_cmp .eq (F_isTwo z1.2 what) 0) ((-2 : Int32), z1.2) (F_doneOf z1.2 seat what) (fun w4 : Int32 × SG => UP m_X7_done 13 [some (.ref 123), some (.int seat), some (.int what)] [.int w4.1] w4.2 (Qb (F_done s seat what))) (fun cc kk => ?_) (fun cc kk => ?_) (fun w4 e4 => ?_)
    · skip
      refine UP.ifT rfl cc ?_
      refine UP.stp 1 (i1 := 13) (L1 := [some (.ref 123), some (.int seat), some (.int what)]) (st1 := [.int (-2)]) (s1 := z1.2) rfl ?_
      exact kk
    · skip
      refine UP.ifF rfl cc ?_
      refine UP.stp 3 (i1 := 10) (L1 := [some (.ref 123), some (.int seat), some (.int what)]) (st1 := [.int what, .int seat, .ref 123]) (s1 := z1.2) rfl ?_
      refine UP.cB (M1 := m_X7_doneOf) (as := [.ref 123, .int seat, .int what]) (rest := []) (T := F_doneOf z1.2 seat what) rfl rfl (ux_doneOf z1.2 seat what) (fun z3 e3 => ?_)
      refine UP.stp 1 (i1 := 13) (L1 := [some (.ref 123), some (.int seat), some (.int what)]) (st1 := [.int z3.1]) (s1 := z3.2) rfl ?_
      subst e3
      exact kk
    subst e4
    exact kk
  exact UP.ret (r := some (.int w5.1)) rfl ⟨by subst e5 e1; rfl, by subst e5 e1; rfl⟩
def W_thereOf : List (Nat × Nat × Option Nat) := [(126, 129, none), (133, 144, none), (147, 147, none), (123, 123, some 2), (123, 123, some 5), (123, 123, some 7), (123, 123, some 17), (123, 123, some 19), (123, 123, some 20), (123, 123, some 21), (123, 123, some 22), (123, 123, some 23), (123, 123, some 24), (123, 123, some 25), (123, 123, some 26), (123, 123, some 27)]
def F_thereOf (s : SG)  : Int32 × SG := let z1 := F_runsTold s ; (z1 123 21, z1)
theorem fr_thereOf (s : SG)   : Fr W_thereOf s (F_thereOf s).2 := by dsimp only [F_thereOf]; exact (Fr.tr (s1 := s) (Fr.rf _ _) (Fr.wk (W2 := W_thereOf) (fr_runsTold s ) (by rfl)))
theorem ux_thereOf (s : SG)   : UP m_X7_thereOf 0 (m_ent 1 [.ref 123]) [] s (Qb (F_thereOf s)) := by
  refine UP.stp 1 (i1 := 1) (L1 := [some (.ref 123)]) (st1 := [.ref 123]) (s1 := s) rfl ?_
  refine UP.cV (M1 := m_X7_runsTold) (as := [.ref 123]) (rest := []) (T := F_runsTold s ) rfl rfl (ux_runsTold s ) (fun z1 e1 => ?_)
  refine UP.stp 2 (i1 := 4) (L1 := [some (.ref 123)]) (st1 := [.int (z1 123 21)]) (s1 := z1) rfl ?_
  exact UP.ret (r := some (.int (z1 123 21))) rfl ⟨by subst e1; rfl, by subst e1; rfl⟩
