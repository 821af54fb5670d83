/-! the model: its calls, as functions (printed by wip/u/mk_m3.py) -/
def W_asTold : List (Nat × Nat × Option Nat) := [(126, 129, none), (133, 144, none), (147, 147, none), (123, 123, some 2), (123, 123, some 5), (123, 123, some 7), (123, 123, some 17), (123, 123, some 19), (123, 123, some 20), (123, 123, some 21), (123, 123, some 22), (123, 123, some 23), (123, 123, some 24), (123, 123, some 25), (123, 123, some 26), (123, 123, some 27)]
def B_asTold_4  (i2 : Nat) (a2 : SG) : SG := let v3 := a2 128 i2; let v4 := a2 129 i2; (uset (uset a2 133 i2 v3) 134 i2 v4)
theorem fr_B_asTold_4  (i2 : Nat) (a2 : SG)  (hi2 : i2 < 24) : Fr W_asTold a2 ((B_asTold_4) i2 a2) := (Fr.uset (by rfl) (Fr.uset (by rfl) (Fr.rf _ _)))
def B_asTold_30  (i5 : Nat) (a5 : SG) : SG := (uset a5 135 i5 (Int32.ofNat i5))
theorem fr_B_asTold_30  (i5 : Nat) (a5 : SG)  (hi5 : i5 < 8) : Fr W_asTold a5 ((B_asTold_30) i5 a5) := (Fr.uset (by rfl) (Fr.rf _ _))
def F_asTold (s : SG)  : SG := let z1 := F_reads s ; let z2 := itr (B_asTold_4) 0 24 z1; let z5 := itr (B_asTold_30) 0 8 (uset z2 123 17 0); z5
theorem fr_asTold (s : SG)   : Fr W_asTold s (F_asTold s) := (frItrB (W := W_asTold) (m := (fun x : SG => x)) 8 (fun i a h => Fr.wk (W2 := W_asTold) (fr_B_asTold_30  i a  h) (by rfl)) _ _ _ (by omega) (Fr.uset (by rfl) (frItrB (W := W_asTold) (m := (fun x : SG => x)) 24 (fun i a h => Fr.wk (W2 := W_asTold) (fr_B_asTold_4  i a  h) (by rfl)) _ _ _ (by omega) (Fr.tr (Fr.rf _ _) (Fr.wk (W2 := W_asTold) (fr_reads _) (by rfl))))))
theorem ux_asTold (s : SG)   : UP m_X7_asTold 0 (m_ent 2 [.ref 123]) [] s (Qv (F_asTold s)) := by
  refine UP.stp 1 (i1 := 1) (L1 := [some (.ref 123), none]) (st1 := [.ref 123]) (s1 := s) rfl ?_
  refine UP.cV (M1 := m_X7_reads) (as := [.ref 123]) (rest := []) (T := F_reads s ) rfl rfl (ux_reads s ) (fun z1 e1 => ?_)
  refine UP.stp 2 (i1 := 4) (L1 := [some (.ref 123), some (.int 0)]) (st1 := []) (s1 := z1) rfl ?_
  refine lp (fun (i2 : Nat) (a2 : SG) => UP m_X7_asTold 4 [some (.ref 123), some (.int (Int32.ofNat i2))] [] a2 (Qv (F_asTold s))) (fun (_ : Nat) (a2 : SG) => Fr W_asTold z1 a2) (B_asTold_4) (24) (fun i2 a2 hi2 g2 => g2.tr (fr_B_asTold_4  i2 a2 hi2)) (fun i2 a2 hi2 g2 kk => ?_) 24 (0) z1 (by omega) (Fr.rf _ _) (fun z2 e2 g2 => ?_)
  · skip
    refine UP.stp 2 (i1 := 6) (L1 := [some (.ref 123), some (.int (Int32.ofNat i2))]) (st1 := [.int 24, .int (Int32.ofNat i2)]) (s1 := a2) rfl ?_
    refine UP.icF rfl (ge_F (show i2 < (24 : Int32).toNatClampNeg from hi2)) ?_
    refine UP.stp 6 (i1 := 13) (L1 := [some (.ref 123), some (.int (Int32.ofNat i2))]) (st1 := [.int (Int32.ofNat i2), .ref 128, .int (Int32.ofNat i2), .ref 133]) (s1 := a2) rfl ?_
    refine UP.ald (e := i2) rfl rfl (by omega) ?_
    show UP m_X7_asTold 14 [some (.ref 123), some (.int (Int32.ofNat i2))] [.int (a2 128 i2), .int (Int32.ofNat i2), .ref 133] a2 (Qv (F_asTold s))
    refine nm (G := fun v3 => UP m_X7_asTold 14 [some (.ref 123), some (.int (Int32.ofNat i2))] [.int v3, .int (Int32.ofNat i2), .ref 133] a2 (Qv (F_asTold s))) (a2 128 i2) (fun v3 e3 => ?_)
    refine UP.ast (e := i2) rfl rfl (by omega) ?_
    show UP m_X7_asTold 15 [some (.ref 123), some (.int (Int32.ofNat i2))] [] (uset a2 133 i2 v3) (Qv (F_asTold s))
    refine UP.stp 6 (i1 := 21) (L1 := [some (.ref 123), some (.int (Int32.ofNat i2))]) (st1 := [.int (Int32.ofNat i2), .ref 129, .int (Int32.ofNat i2), .ref 134]) (s1 := (uset a2 133 i2 v3)) rfl ?_
    refine UP.ald (e := i2) rfl rfl (by omega) ?_
    show UP m_X7_asTold 22 [some (.ref 123), some (.int (Int32.ofNat i2))] [.int (a2 129 i2), .int (Int32.ofNat i2), .ref 134] (uset a2 133 i2 v3) (Qv (F_asTold s))
    refine nm (G := fun v4 => UP m_X7_asTold 22 [some (.ref 123), some (.int (Int32.ofNat i2))] [.int v4, .int (Int32.ofNat i2), .ref 134] (uset a2 133 i2 v3) (Qv (F_asTold s))) (a2 129 i2) (fun v4 e4 => ?_)
    refine UP.ast (e := i2) rfl rfl (by omega) ?_
    show UP m_X7_asTold 23 [some (.ref 123), some (.int (Int32.ofNat i2))] [] (uset (uset a2 133 i2 v3) 134 i2 v4) (Qv (F_asTold s))
    refine UP.stp 2 (i1 := 4) (L1 := [some (.ref 123), some (.int ((Int32.ofNat i2) + 1))]) (st1 := []) (s1 := (uset (uset a2 133 i2 v3) 134 i2 v4)) rfl ?_
    subst e4 e3
    rw [ofn_s]
    exact kk
  refine UP.stp 2 (i1 := 6) (L1 := [some (.ref 123), some (.int (Int32.ofNat 24))]) (st1 := [.int 24, .int (Int32.ofNat 24)]) (s1 := z2) rfl ?_
  refine UP.icT rfl (ge_T (24 : Int32)) ?_
  refine UP.stp 5 (i1 := 30) (L1 := [some (.ref 123), some (.int 0)]) (st1 := []) (s1 := (uset z2 123 17 0)) rfl ?_
  refine lp (fun (i5 : Nat) (a5 : SG) => UP m_X7_asTold 30 [some (.ref 123), some (.int (Int32.ofNat i5))] [] a5 (Qv (F_asTold s))) (fun (_ : Nat) (a5 : SG) => Fr W_asTold (uset z2 123 17 0) a5) (B_asTold_30) (8) (fun i5 a5 hi5 g5 => g5.tr (fr_B_asTold_30  i5 a5 hi5)) (fun i5 a5 hi5 g5 kk => ?_) 8 (0) (uset z2 123 17 0) (by omega) (Fr.rf _ _) (fun z5 e5 g5 => ?_)
  · skip
    refine UP.stp 2 (i1 := 32) (L1 := [some (.ref 123), some (.int (Int32.ofNat i5))]) (st1 := [.int 8, .int (Int32.ofNat i5)]) (s1 := a5) rfl ?_
    refine UP.icF rfl (ge_F (show i5 < (8 : Int32).toNatClampNeg from hi5)) ?_
    refine UP.stp 4 (i1 := 37) (L1 := [some (.ref 123), some (.int (Int32.ofNat i5))]) (st1 := [.int (Int32.ofNat i5), .int (Int32.ofNat i5), .ref 135]) (s1 := a5) rfl ?_
    refine UP.ast (e := i5) rfl rfl (by omega) ?_
    show UP m_X7_asTold 38 [some (.ref 123), some (.int (Int32.ofNat i5))] [] (uset a5 135 i5 (Int32.ofNat i5)) (Qv (F_asTold s))
    refine UP.stp 2 (i1 := 30) (L1 := [some (.ref 123), some (.int ((Int32.ofNat i5) + 1))]) (st1 := []) (s1 := (uset a5 135 i5 (Int32.ofNat i5))) rfl ?_
    rw [ofn_s]
    exact kk
  refine UP.stp 2 (i1 := 32) (L1 := [some (.ref 123), some (.int (Int32.ofNat 8))]) (st1 := [.int 8, .int (Int32.ofNat 8)]) (s1 := z5) rfl ?_
  refine UP.icT rfl (ge_T (8 : Int32)) ?_
  exact UP.ret (r := none) rfl ⟨by subst e5 e2 e1; rfl, by subst e5 e2 e1; rfl⟩
def W_runsTold : List (Nat × Nat × Option Nat) := [(126, 129, none), (133, 144, none), (147, 147, none), (123, 123, some 2), (123, 123, some 5), (123, 123, some 7), (123, 123, some 17), (123, 123, some 19), (123, 123, some 20), (123, 123, some 21), (123, 123, some 22), (123, 123, some 23), (123, 123, some 24), (123, 123, some 25), (123, 123, some 26), (123, 123, some 27)]
def F_runsTold (s : SG)  : SG := let z1 := F_asTold s ; let z2 := F_runs z1 ; z2
theorem fr_runsTold (s : SG)   : Fr W_runsTold s (F_runsTold s) := (Fr.tr (Fr.tr (Fr.rf _ _) (Fr.wk (W2 := W_runsTold) (fr_asTold _) (by rfl))) (Fr.wk (W2 := W_runsTold) (fr_runs _) (by rfl)))
theorem ux_runsTold (s : SG)   : UP m_X7_runsTold 0 (m_ent 1 [.ref 123]) [] s (Qv (F_runsTold s)) := by
  refine UP.stp 1 (i1 := 1) (L1 := [some (.ref 123)]) (st1 := [.ref 123]) (s1 := s) rfl ?_
  refine UP.cV (M1 := m_X7_asTold) (as := [.ref 123]) (rest := []) (T := F_asTold s ) rfl rfl (ux_asTold s ) (fun z1 e1 => ?_)
  refine UP.stp 1 (i1 := 3) (L1 := [some (.ref 123)]) (st1 := [.ref 123]) (s1 := z1) rfl ?_
  refine UP.cV (M1 := m_X7_runs) (as := [.ref 123]) (rest := []) (T := F_runs z1 ) rfl rfl (ux_runs z1 ) (fun z2 e2 => ?_)
  exact UP.ret (r := none) rfl ⟨by subst e2 e1; rfl, by subst e2 e1; rfl⟩
def W_atOf : List (Nat × Nat × Option Nat) := [(126, 129, none), (133, 144, none), (147, 147, none), (123, 123, some 2), (123, 123, some 5), (123, 123, some 7), (123, 123, some 17), (123, 123, some 19), (123, 123, some 20), (123, 123, some 21), (123, 123, some 22), (123, 123, some 23), (123, 123, some 24), (123, 123, some 25), (123, 123, some 26), (123, 123, some 27)]
def F_atOf (s : SG) (minute : Int32) (what : Int32) : Int32 × SG := let z1 := F_runsTold s ; bif m_cmp .eq what 0 then ((z1 139 minute.toNatClampNeg, z1)) else (bif m_cmp .eq what 1 then ((z1 140 minute.toNatClampNeg, z1)) else (bif m_cmp .eq what 2 then ((z1 141 ((2 * minute).toNatClampNeg), z1)) else (bif m_cmp .eq what 3 then ((z1 141 (((2 * minute) + 1).toNatClampNeg), z1)) else ((z1 142 minute.toNatClampNeg, z1)))))
theorem fr_atOf (s : SG) (minute : Int32) (what : Int32)  : Fr W_atOf s (F_atOf s minute what).2 := (Fr.bifp (fun x : Int32 × SG => x.2) (Fr.tr (Fr.rf _ _) (Fr.wk (W2 := W_atOf) (fr_runsTold _) (by rfl))) (Fr.bifp (fun x : Int32 × SG => x.2) (Fr.tr (Fr.rf _ _) (Fr.wk (W2 := W_atOf) (fr_runsTold _) (by rfl))) (Fr.bifp (fun x : Int32 × SG => x.2) (Fr.tr (Fr.rf _ _) (Fr.wk (W2 := W_atOf) (fr_runsTold _) (by rfl))) (Fr.bifp (fun x : Int32 × SG => x.2) (Fr.tr (Fr.rf _ _) (Fr.wk (W2 := W_atOf) (fr_runsTold _) (by rfl))) (Fr.tr (Fr.rf _ _) (Fr.wk (W2 := W_atOf) (fr_runsTold _) (by rfl)))))))
theorem ux_atOf (s : SG) (minute : Int32) (what : Int32)  : UP m_X7_atOf 0 (m_ent 3 [.ref 123, .int minute, .int what]) [] s (Qb (F_atOf s minute what)) := by
  refine UP.stp 1 (i1 := 1) (L1 := [some (.ref 123), some (.int minute), some (.int what)]) (st1 := [.ref 123]) (s1 := s) rfl ?_
  refine UP.cV (M1 := m_X7_runsTold) (as := [.ref 123]) (rest := []) (T := F_runsTold s ) rfl rfl (ux_runsTold s ) (fun z1 e1 => ?_)
  refine UP.stp 1 (i1 := 3) (L1 := [some (.ref 123), some (.int minute), some (.int what)]) (st1 := [.int what]) (s1 := z1) rfl ?_
  refine UP.spl (m_cmp .eq what 0) ((z1 139 minute.toNatClampNeg, z1)) (bif m_cmp .eq what 1 then ((z1 140 minute.toNatClampNeg, z1)) else (bif m_cmp .eq what 2 then ((z1 141 ((2 * minute).toNatClampNeg), z1)) else (bif m_cmp .eq what 3 then ((z1 141 (((2 * minute) + 1).toNatClampNeg), z1)) else ((z1 142 minute.toNatClampNeg, z1))))) (by subst e1; rfl) (fun cs0 => ?_) (fun cs0 => ?_)
  · skip
    refine UP.swT 0 rfl cs0 (by decide) (by decide) ?_
    refine UP.stp 4 (i1 := 8) (L1 := [some (.ref 123), some (.int minute), some (.int what)]) (st1 := [.int (z1 139 minute.toNatClampNeg)]) (s1 := z1) rfl ?_
    exact UP.ret (r := some (.int (z1 139 minute.toNatClampNeg))) rfl ⟨by subst e1; rfl, by subst e1; rfl⟩
  · skip
    refine UP.spl (m_cmp .eq what 1) ((z1 140 minute.toNatClampNeg, z1)) (bif m_cmp .eq what 2 then ((z1 141 ((2 * minute).toNatClampNeg), z1)) else (bif m_cmp .eq what 3 then ((z1 141 (((2 * minute) + 1).toNatClampNeg), z1)) else ((z1 142 minute.toNatClampNeg, z1)))) (by subst e1; rfl) (fun cs1 => ?_) (fun cs1 => ?_)
    · skip
      refine UP.swT 1 rfl cs1 (by decide) (by decide) ?_
      refine UP.stp 4 (i1 := 13) (L1 := [some (.ref 123), some (.int minute), some (.int what)]) (st1 := [.int (z1 140 minute.toNatClampNeg)]) (s1 := z1) rfl ?_
      exact UP.ret (r := some (.int (z1 140 minute.toNatClampNeg))) rfl ⟨by subst e1; rfl, by subst e1; rfl⟩
    · skip
      refine UP.spl (m_cmp .eq what 2) ((z1 141 ((2 * minute).toNatClampNeg), z1)) (bif m_cmp .eq what 3 then ((z1 141 (((2 * minute) + 1).toNatClampNeg), z1)) else ((z1 142 minute.toNatClampNeg, z1))) (by subst e1; rfl) (fun cs2 => ?_) (fun cs2 => ?_)
      · skip
        refine UP.swT 2 rfl cs2 (by decide) (by decide) ?_
        refine UP.stp 6 (i1 := 20) (L1 := [some (.ref 123), some (.int minute), some (.int what)]) (st1 := [.int (z1 141 ((2 * minute).toNatClampNeg))]) (s1 := z1) rfl ?_
        exact UP.ret (r := some (.int (z1 141 ((2 * minute).toNatClampNeg)))) rfl ⟨by subst e1; rfl, by subst e1; rfl⟩
      · skip
        refine UP.spl (m_cmp .eq what 3) ((z1 141 (((2 * minute) + 1).toNatClampNeg), z1)) ((z1 142 minute.toNatClampNeg, z1)) (by subst e1; rfl) (fun cs3 => ?_) (fun cs3 => ?_)
        · skip
          refine UP.swT 3 rfl cs3 (by decide) (by decide) ?_
          refine UP.stp 8 (i1 := 29) (L1 := [some (.ref 123), some (.int minute), some (.int what)]) (st1 := [.int (z1 141 (((2 * minute) + 1).toNatClampNeg))]) (s1 := z1) rfl ?_
          exact UP.ret (r := some (.int (z1 141 (((2 * minute) + 1).toNatClampNeg)))) rfl ⟨by subst e1; rfl, by subst e1; rfl⟩
        · skip
          refine UP.swD rfl (by have c0_ : what.toInt ≠ 0 := ne_int cs0; have c1_ : what.toInt ≠ 1 := ne_int cs1; have c2_ : what.toInt ≠ 2 := ne_int cs2; have c3_ : what.toInt ≠ 3 := ne_int cs3; omega) ?_
          refine UP.stp 4 (i1 := 34) (L1 := [some (.ref 123), some (.int minute), some (.int what)]) (st1 := [.int (z1 142 minute.toNatClampNeg)]) (s1 := z1) rfl ?_
          exact UP.ret (r := some (.int (z1 142 minute.toNatClampNeg))) rfl ⟨by subst e1; rfl, by subst e1; rfl⟩
def W_at : List (Nat × Nat × Option Nat) := [(126, 129, none), (133, 144, none), (147, 147, none), (123, 123, some 2), (123, 123, some 5), (123, 123, some 7), (123, 123, some 17), (123, 123, some 19), (123, 123, some 20), (123, 123, some 21), (123, 123, some 22), (123, 123, some 23), (123, 123, some 24), (123, 123, some 25), (123, 123, some 26), (123, 123, some 27)]
def F_at (s : SG) (minute : Int32) (what : Int32) : Int32 × SG := let w5 := bif m_cmp .eq (F_isMinute s minute) 0 then ((-2 : Int32), s) else ((bif m_cmp .eq (F_in s what 0 4) 0 then ((-2 : Int32), s) else ((F_atOf s minute what).1, (F_atOf s minute what).2)).1, (bif m_cmp .eq (F_in s what 0 4) 0 then ((-2 : Int32), s) else ((F_atOf s minute what).1, (F_atOf s minute what).2)).2); (w5.1, w5.2)
theorem fr_at (s : SG) (minute : Int32) (what : Int32)  : Fr W_at s (F_at s minute what).2 := (Fr.bifp (fun x : Int32 × SG => x.2) (Fr.rf _ _) (Fr.bifp (fun x : Int32 × SG => x.2) (Fr.rf _ _) (Fr.tr (Fr.rf _ _) (Fr.wk (W2 := W_at) (fr_atOf _ _ _) (by rfl)))))
theorem ux_at (s : SG) (minute : Int32) (what : Int32)  : UP m_X7_at 0 (m_ent 3 [.ref 123, .int minute, .int what]) [] s (Qb (F_at s minute what)) := by
  refine UP.stp 1 (i1 := 1) (L1 := [some (.ref 123), some (.int minute), some (.int what)]) (st1 := [.int minute]) (s1 := s) rfl ?_
  refine UP.cI (M1 := m_X7_isMinute) (as := [.int minute]) (rest := []) (T := F_isMinute s minute) rfl rfl (ux_isMinute s minute) ?_
  refine mrg (m_cmp .eq (F_isMinute s minute) 0) ((-2 : Int32), s) ((bif m_cmp .eq (F_in s what 0 4) 0 then ((-2 : Int32), s) else ((F_atOf s minute what).1, (F_atOf s minute what).2)).1, (bif m_cmp .eq (F_in s what 0 4) 0 then ((-2 : Int32), s) else ((F_atOf s minute what).1, (F_atOf s minute what).2)).2) (fun w5 : Int32 × SG => UP m_X7_at 14 [some (.ref 123), some (.int minute), some (.int what)] [.int w5.1] w5.2 (Qb (F_at s minute what))) (fun cc kk => ?_) (fun cc kk => ?_) (fun w5 e5 => ?_)
  · skip
    refine UP.ifT rfl cc ?_
    refine UP.stp 1 (i1 := 14) (L1 := [some (.ref 123), some (.int minute), some (.int what)]) (st1 := [.int (-2)]) (s1 := s) rfl ?_
    exact kk
  · skip
    refine UP.ifF rfl cc ?_
    refine UP.stp 3 (i1 := 6) (L1 := [some (.ref 123), some (.int minute), some (.int what)]) (st1 := [.int 4, .int 0, .int what]) (s1 := s) rfl ?_
    refine UP.cI (M1 := m_X7_in) (as := [.int what, .int 0, .int 4]) (rest := []) (T := F_in s what 0 4) rfl rfl (ux_in s what 0 4) ?_
    refine mrg (m_cmp .eq (F_in s what 0 4) 0) ((-2 : Int32), s) ((F_atOf s minute what).1, (F_atOf s minute what).2) (fun w4 : Int32 × SG => UP m_X7_at 14 [some (.ref 123), some (.int minute), some (.int what)] [.int w4.1] w4.2 (Qb (F_at s minute what))) (fun cc kk => ?_) (fun cc kk => ?_) (fun w4 e4 => ?_)
    · skip
      refine UP.ifT rfl cc ?_
      refine UP.stp 1 (i1 := 14) (L1 := [some (.ref 123), some (.int minute), some (.int what)]) (st1 := [.int (-2)]) (s1 := s) rfl ?_
      exact kk
    · skip
      refine UP.ifF rfl cc ?_
      refine UP.stp 3 (i1 := 11) (L1 := [some (.ref 123), some (.int minute), some (.int what)]) (st1 := [.int what, .int minute, .ref 123]) (s1 := s) rfl ?_
      refine UP.cB (M1 := m_X7_atOf) (as := [.ref 123, .int minute, .int what]) (rest := []) (T := F_atOf s minute what) rfl rfl (ux_atOf s minute what) (fun z3 e3 => ?_)
      refine UP.stp 1 (i1 := 14) (L1 := [some (.ref 123), some (.int minute), some (.int what)]) (st1 := [.int z3.1]) (s1 := z3.2) rfl ?_
      subst e3
      exact kk
    subst e4
    exact kk
  exact UP.ret (r := some (.int w5.1)) rfl ⟨by subst e5; rfl, by subst e5; rfl⟩
def W_pullsOf : List (Nat × Nat × Option Nat) := [(126, 129, none), (133, 144, none), (147, 147, none), (123, 123, some 2), (123, 123, some 5), (123, 123, some 7), (123, 123, some 17), (123, 123, some 19), (123, 123, some 20), (123, 123, some 21), (123, 123, some 22), (123, 123, some 23), (123, 123, some 24), (123, 123, some 25), (123, 123, some 26), (123, 123, some 27)]
def F_pullsOf (s : SG) (minute : Int32) (k : Int32) : Int32 × SG := let z1 := F_runsTold s ; (z1 143 (((8 * minute) + k).toNatClampNeg), z1)
theorem fr_pullsOf (s : SG) (minute : Int32) (k : Int32)  : Fr W_pullsOf s (F_pullsOf s minute k).2 := (Fr.tr (Fr.rf _ _) (Fr.wk (W2 := W_pullsOf) (fr_runsTold _) (by rfl)))
theorem ux_pullsOf (s : SG) (minute : Int32) (k : Int32)  : UP m_X7_pullsOf 0 (m_ent 3 [.ref 123, .int minute, .int k]) [] s (Qb (F_pullsOf s minute k)) := by
  refine UP.stp 1 (i1 := 1) (L1 := [some (.ref 123), some (.int minute), some (.int k)]) (st1 := [.ref 123]) (s1 := s) rfl ?_
  refine UP.cV (M1 := m_X7_runsTold) (as := [.ref 123]) (rest := []) (T := F_runsTold s ) rfl rfl (ux_runsTold s ) (fun z1 e1 => ?_)
  refine UP.stp 8 (i1 := 10) (L1 := [some (.ref 123), some (.int minute), some (.int k)]) (st1 := [.int (z1 143 (((8 * minute) + k).toNatClampNeg))]) (s1 := z1) rfl ?_
  exact UP.ret (r := some (.int (z1 143 (((8 * minute) + k).toNatClampNeg)))) rfl ⟨by subst e1; rfl, by subst e1; rfl⟩
def W_pulls : List (Nat × Nat × Option Nat) := [(126, 129, none), (133, 144, none), (147, 147, none), (123, 123, some 2), (123, 123, some 5), (123, 123, some 7), (123, 123, some 17), (123, 123, some 19), (123, 123, some 20), (123, 123, some 21), (123, 123, some 22), (123, 123, some 23), (123, 123, some 24), (123, 123, some 25), (123, 123, some 26), (123, 123, some 27)]
def F_pulls (s : SG) (minute : Int32) (seat : Int32) : Int32 × SG := let w5 := bif m_cmp .eq (F_isMinute s minute) 0 then ((-2 : Int32), s) else ((bif m_cmp .eq (F_isRower s seat).1 0 then ((-2 : Int32), (F_isRower s seat).2) else ((F_pullsOf (F_isRower s seat).2 minute seat).1, (F_pullsOf (F_isRower s seat).2 minute seat).2)).1, (bif m_cmp .eq (F_isRower s seat).1 0 then ((-2 : Int32), (F_isRower s seat).2) else ((F_pullsOf (F_isRower s seat).2 minute seat).1, (F_pullsOf (F_isRower s seat).2 minute seat).2)).2); (w5.1, w5.2)
theorem fr_pulls (s : SG) (minute : Int32) (seat : Int32)  : Fr W_pulls s (F_pulls s minute seat).2 := (Fr.bifp (fun x : Int32 × SG => x.2) (Fr.rf _ _) (Fr.bifp (fun x : Int32 × SG => x.2) (Fr.tr (Fr.rf _ _) (Fr.wk (W2 := W_pulls) (fr_isRower _ _) (by rfl))) (Fr.tr (Fr.tr (Fr.rf _ _) (Fr.wk (W2 := W_pulls) (fr_isRower _ _) (by rfl))) (Fr.wk (W2 := W_pulls) (fr_pullsOf _ _ _) (by rfl)))))
theorem ux_pulls (s : SG) (minute : Int32) (seat : Int32)  : UP m_X7_pulls 0 (m_ent 3 [.ref 123, .int minute, .int seat]) [] s (Qb (F_pulls s minute seat)) := by
  refine UP.stp 1 (i1 := 1) (L1 := [some (.ref 123), some (.int minute), some (.int seat)]) (st1 := [.int minute]) (s1 := s) rfl ?_
  refine UP.cI (M1 := m_X7_isMinute) (as := [.int minute]) (rest := []) (T := F_isMinute s minute) rfl rfl (ux_isMinute s minute) ?_
  refine mrg (m_cmp .eq (F_isMinute s minute) 0) ((-2 : Int32), s) ((bif m_cmp .eq (F_isRower s seat).1 0 then ((-2 : Int32), (F_isRower s seat).2) else ((F_pullsOf (F_isRower s seat).2 minute seat).1, (F_pullsOf (F_isRower s seat).2 minute seat).2)).1, (bif m_cmp .eq (F_isRower s seat).1 0 then ((-2 : Int32), (F_isRower s seat).2) else ((F_pullsOf (F_isRower s seat).2 minute seat).1, (F_pullsOf (F_isRower s seat).2 minute seat).2)).2) (fun w5 : Int32 × SG => UP m_X7_pulls 13 [some (.ref 123), some (.int minute), some (.int seat)] [.int w5.1] w5.2 (Qb (F_pulls s minute seat))) (fun cc kk => ?_) (fun cc kk => ?_) (fun w5 e5 => ?_)
  · skip
    refine UP.ifT rfl cc ?_
    refine UP.stp 1 (i1 := 13) (L1 := [some (.ref 123), some (.int minute), some (.int seat)]) (st1 := [.int (-2)]) (s1 := s) rfl ?_
    exact kk
  · skip
    refine UP.ifF rfl cc ?_
    refine UP.stp 2 (i1 := 5) (L1 := [some (.ref 123), some (.int minute), some (.int seat)]) (st1 := [.int seat, .ref 123]) (s1 := s) rfl ?_
    refine UP.cB (M1 := m_X7_isRower) (as := [.ref 123, .int seat]) (rest := []) (T := F_isRower s seat) rfl rfl (ux_isRower s seat) (fun z2 e2 => ?_)
    refine mrg (m_cmp .eq z2.1 0) ((-2 : Int32), z2.2) ((F_pullsOf z2.2 minute seat).1, (F_pullsOf z2.2 minute seat).2) (fun w4 : Int32 × SG => UP m_X7_pulls 13 [some (.ref 123), some (.int minute), some (.int seat)] [.int w4.1] w4.2 (Qb (F_pulls s minute seat))) (fun cc kk => ?_) (fun cc kk => ?_) (fun w4 e4 => ?_)
    · skip
      refine UP.ifT rfl cc ?_
      refine UP.stp 1 (i1 := 13) (L1 := [some (.ref 123), some (.int minute), some (.int seat)]) (st1 := [.int (-2)]) (s1 := z2.2) rfl ?_
      exact kk
    · skip
      refine UP.ifF rfl cc ?_
      refine UP.stp 3 (i1 := 10) (L1 := [some (.ref 123), some (.int minute), some (.int seat)]) (st1 := [.int seat, .int minute, .ref 123]) (s1 := z2.2) rfl ?_
      refine UP.cB (M1 := m_X7_pullsOf) (as := [.ref 123, .int minute, .int seat]) (rest := []) (T := F_pullsOf z2.2 minute seat) rfl rfl (ux_pullsOf z2.2 minute seat) (fun z3 e3 => ?_)
      refine UP.stp 1 (i1 := 13) (L1 := [some (.ref 123), some (.int minute), some (.int seat)]) (st1 := [.int z3.1]) (s1 := z3.2) rfl ?_
      subst e3
      exact kk
    subst e4 e2
    exact kk
  exact UP.ret (r := some (.int w5.1)) rfl ⟨by subst e5; rfl, by subst e5; rfl⟩
def W_doneOf : List (Nat × Nat × Option Nat) := [(126, 129, none), (133, 144, none), (147, 147, none), (123, 123, some 2), (123, 123, some 5), (123, 123, some 7), (123, 123, some 17), (123, 123, some 19), (123, 123, some 20), (123, 123, some 21), (123, 123, some 22), (123, 123, some 23), (123, 123, some 24), (123, 123, some 25), (123, 123, some 26), (123, 123, some 27)]
def F_doneOf (s : SG) (k : Int32) (what : Int32) : Int32 × SG := let z1 := F_runsTold s ; let v2 := bif m_cmp .ne what 0 then z1 138 k.toNatClampNeg else z1 137 k.toNatClampNeg; (v2, z1)
theorem fr_doneOf (s : SG) (k : Int32) (what : Int32)  : Fr W_doneOf s (F_doneOf s k what).2 := (Fr.tr (Fr.rf _ _) (Fr.wk (W2 := W_doneOf) (fr_runsTold _) (by rfl)))
theorem ux_doneOf (s : SG) (k : Int32) (what : Int32)  : UP m_X7_doneOf 0 (m_ent 3 [.ref 123, .int k, .int what]) [] s (Qb (F_doneOf s k what)) := by
  refine UP.stp 1 (i1 := 1) (L1 := [some (.ref 123), some (.int k), some (.int what)]) (st1 := [.ref 123]) (s1 := s) rfl ?_
  refine UP.cV (M1 := m_X7_runsTold) (as := [.ref 123]) (rest := []) (T := F_runsTold s ) rfl rfl (ux_runsTold s ) (fun z1 e1 => ?_)
  refine UP.stp 1 (i1 := 3) (L1 := [some (.ref 123), some (.int k), some (.int what)]) (st1 := [.int what]) (s1 := z1) rfl ?_
  refine mrg (m_cmp .ne what 0) (z1 138 k.toNatClampNeg) (z1 137 k.toNatClampNeg) (fun v2 : Int32 => UP m_X7_doneOf 13 [some (.ref 123), some (.int k), some (.int what)] [.int v2] z1 (Qb (F_doneOf s k what))) (fun cc kk => ?_) (fun cc kk => ?_) (fun v2 e2 => ?_)
  · skip
    refine UP.ifT rfl cc ?_
    refine UP.stp 4 (i1 := 13) (L1 := [some (.ref 123), some (.int k), some (.int what)]) (st1 := [.int (z1 138 k.toNatClampNeg)]) (s1 := z1) rfl ?_
    exact kk
  · skip
    refine UP.ifF rfl cc ?_
    refine UP.stp 5 (i1 := 13) (L1 := [some (.ref 123), some (.int k), some (.int what)]) (st1 := [.int (z1 137 k.toNatClampNeg)]) (s1 := z1) rfl ?_
    exact kk
  exact UP.ret (r := some (.int v2)) rfl ⟨by subst e2 e1; rfl, by subst e2 e1; rfl⟩
def W_done : List (Nat × Nat × Option Nat) := [(126, 129, none), (133, 144, none), (147, 147, none), (123, 123, some 2), (123, 123, some 5), (123, 123, some 7), (123, 123, some 17), (123, 123, some 19), (123, 123, some 20), (123, 123, some 21), (123, 123, some 22), (123, 123, some 23), (123, 123, some 24), (123, 123, some 25), (123, 123, some 26), (123, 123, some 27)]
def F_done (s : SG) (seat : Int32) (what : Int32) : Int32 × SG := let z1 := F_isRower s seat; let w5 := bif m_cmp .eq z1.1 0 then ((-2 : Int32), z1.2) else ((bif m_cmp .eq (F_isTwo z1.2 what) 0 then ((-2 : Int32), z1.2) else ((F_doneOf z1.2 seat what).1, (F_doneOf z1.2 seat what).2)).1, (bif m_cmp .eq (F_isTwo z1.2 what) 0 then ((-2 : Int32), z1.2) else ((F_doneOf z1.2 seat what).1, (F_doneOf z1.2 seat what).2)).2); (w5.1, w5.2)
theorem fr_done (s : SG) (seat : Int32) (what : Int32)  : Fr W_done s (F_done s seat what).2 := (Fr.bifp (fun x : Int32 × SG => x.2) (Fr.tr (Fr.rf _ _) (Fr.wk (W2 := W_done) (fr_isRower _ _) (by rfl))) (Fr.bifp (fun x : Int32 × SG => x.2) (Fr.tr (Fr.rf _ _) (Fr.wk (W2 := W_done) (fr_isRower _ _) (by rfl))) (Fr.tr (Fr.tr (Fr.rf _ _) (Fr.wk (W2 := W_done) (fr_isRower _ _) (by rfl))) (Fr.wk (W2 := W_done) (fr_doneOf _ _ _) (by rfl)))))
theorem ux_done (s : SG) (seat : Int32) (what : Int32)  : UP m_X7_done 0 (m_ent 3 [.ref 123, .int seat, .int what]) [] s (Qb (F_done s seat what)) := by
  refine UP.stp 2 (i1 := 2) (L1 := [some (.ref 123), some (.int seat), some (.int what)]) (st1 := [.int seat, .ref 123]) (s1 := s) rfl ?_
  refine UP.cB (M1 := m_X7_isRower) (as := [.ref 123, .int seat]) (rest := []) (T := F_isRower s seat) rfl rfl (ux_isRower s seat) (fun z1 e1 => ?_)
  refine mrg (m_cmp .eq z1.1 0) ((-2 : Int32), z1.2) ((bif m_cmp .eq (F_isTwo z1.2 what) 0 then ((-2 : Int32), z1.2) else ((F_doneOf z1.2 seat what).1, (F_doneOf z1.2 seat what).2)).1, (bif m_cmp .eq (F_isTwo z1.2 what) 0 then ((-2 : Int32), z1.2) else ((F_doneOf z1.2 seat what).1, (F_doneOf z1.2 seat what).2)).2) (fun w5 : Int32 × SG => UP m_X7_done 13 [some (.ref 123), some (.int seat), some (.int what)] [.int w5.1] w5.2 (Qb (F_done s seat what))) (fun cc kk => ?_) (fun cc kk => ?_) (fun w5 e5 => ?_)
  · skip
    refine UP.ifT rfl cc ?_
    refine UP.stp 1 (i1 := 13) (L1 := [some (.ref 123), some (.int seat), some (.int what)]) (st1 := [.int (-2)]) (s1 := z1.2) rfl ?_
    exact kk
  · skip
    refine UP.ifF rfl cc ?_
    refine UP.stp 1 (i1 := 5) (L1 := [some (.ref 123), some (.int seat), some (.int what)]) (st1 := [.int what]) (s1 := z1.2) rfl ?_
    refine UP.cI (M1 := m_X7_isTwo) (as := [.int what]) (rest := []) (T := F_isTwo z1.2 what) rfl rfl (ux_isTwo z1.2 what) ?_
    refine mrg (m_cmp .eq (F_isTwo z1.2 what) 0) ((-2 : Int32), z1.2) ((F_doneOf z1.2 seat what).1, (F_doneOf z1.2 seat what).2) (fun w4 : Int32 × SG => UP m_X7_done 13 [some (.ref 123), some (.int seat), some (.int what)] [.int w4.1] w4.2 (Qb (F_done s seat what))) (fun cc kk => ?_) (fun cc kk => ?_) (fun w4 e4 => ?_)
    · skip
      refine UP.ifT rfl cc ?_
      refine UP.stp 1 (i1 := 13) (L1 := [some (.ref 123), some (.int seat), some (.int what)]) (st1 := [.int (-2)]) (s1 := z1.2) rfl ?_
      exact kk
    · skip
      refine UP.ifF rfl cc ?_
      refine UP.stp 3 (i1 := 10) (L1 := [some (.ref 123), some (.int seat), some (.int what)]) (st1 := [.int what, .int seat, .ref 123]) (s1 := z1.2) rfl ?_
      refine UP.cB (M1 := m_X7_doneOf) (as := [.ref 123, .int seat, .int what]) (rest := []) (T := F_doneOf z1.2 seat what) rfl rfl (ux_doneOf z1.2 seat what) (fun z3 e3 => ?_)
      refine UP.stp 1 (i1 := 13) (L1 := [some (.ref 123), some (.int seat), some (.int what)]) (st1 := [.int z3.1]) (s1 := z3.2) rfl ?_
      subst e3
      exact kk
    subst e4
    exact kk
  exact UP.ret (r := some (.int w5.1)) rfl ⟨by subst e5 e1; rfl, by subst e5 e1; rfl⟩
def W_thereOf : List (Nat × Nat × Option Nat) := [(126, 129, none), (133, 144, none), (147, 147, none), (123, 123, some 2), (123, 123, some 5), (123, 123, some 7), (123, 123, some 17), (123, 123, some 19), (123, 123, some 20), (123, 123, some 21), (123, 123, some 22), (123, 123, some 23), (123, 123, some 24), (123, 123, some 25), (123, 123, some 26), (123, 123, some 27)]
def F_thereOf (s : SG)  : Int32 × SG := let z1 := F_runsTold s ; (z1 123 21, z1)
theorem fr_thereOf (s : SG)   : Fr W_thereOf s (F_thereOf s).2 := (Fr.tr (Fr.rf _ _) (Fr.wk (W2 := W_thereOf) (fr_runsTold _) (by rfl)))
theorem ux_thereOf (s : SG)   : UP m_X7_thereOf 0 (m_ent 1 [.ref 123]) [] s (Qb (F_thereOf s)) := by
  refine UP.stp 1 (i1 := 1) (L1 := [some (.ref 123)]) (st1 := [.ref 123]) (s1 := s) rfl ?_
  refine UP.cV (M1 := m_X7_runsTold) (as := [.ref 123]) (rest := []) (T := F_runsTold s ) rfl rfl (ux_runsTold s ) (fun z1 e1 => ?_)
  refine UP.stp 2 (i1 := 4) (L1 := [some (.ref 123)]) (st1 := [.int (z1 123 21)]) (s1 := z1) rfl ?_
  exact UP.ret (r := some (.int (z1 123 21))) rfl ⟨by subst e1; rfl, by subst e1; rfl⟩
def W_there : List (Nat × Nat × Option Nat) := [(126, 129, none), (133, 144, none), (147, 147, none), (123, 123, some 2), (123, 123, some 5), (123, 123, some 7), (123, 123, some 17), (123, 123, some 19), (123, 123, some 20), (123, 123, some 21), (123, 123, some 22), (123, 123, some 23), (123, 123, some 24), (123, 123, some 25), (123, 123, some 26), (123, 123, some 27)]
def F_there (s : SG)  : Int32 × SG := let z1 := F_thereOf s ; (z1.1, z1.2)
theorem fr_there (s : SG)   : Fr W_there s (F_there s).2 := (Fr.tr (Fr.rf _ _) (Fr.wk (W2 := W_there) (fr_thereOf _) (by rfl)))
theorem ux_there (s : SG)   : UP m_X7_there 0 (m_ent 1 [.ref 123]) [] s (Qb (F_there s)) := by
  refine UP.stp 1 (i1 := 1) (L1 := [some (.ref 123)]) (st1 := [.ref 123]) (s1 := s) rfl ?_
  refine UP.cB (M1 := m_X7_thereOf) (as := [.ref 123]) (rest := []) (T := F_thereOf s ) rfl rfl (ux_thereOf s ) (fun z1 e1 => ?_)
  exact UP.ret (r := some (.int z1.1)) rfl ⟨by subst e1; rfl, by subst e1; rfl⟩
def W_groundedOf : List (Nat × Nat × Option Nat) := [(126, 129, none), (133, 144, none), (147, 147, none), (123, 123, some 2), (123, 123, some 5), (123, 123, some 7), (123, 123, some 17), (123, 123, some 19), (123, 123, some 20), (123, 123, some 21), (123, 123, some 22), (123, 123, some 23), (123, 123, some 24), (123, 123, some 25), (123, 123, some 26), (123, 123, some 27)]
def F_groundedOf (s : SG) (what : Int32) : Int32 × SG := let z1 := F_runsTold s ; let v2 := bif m_cmp .ne what 0 then z1 123 23 else z1 123 22; (v2, z1)
theorem fr_groundedOf (s : SG) (what : Int32)  : Fr W_groundedOf s (F_groundedOf s what).2 := (Fr.tr (Fr.rf _ _) (Fr.wk (W2 := W_groundedOf) (fr_runsTold _) (by rfl)))
theorem ux_groundedOf (s : SG) (what : Int32)  : UP m_X7_groundedOf 0 (m_ent 2 [.ref 123, .int what]) [] s (Qb (F_groundedOf s what)) := by
  refine UP.stp 1 (i1 := 1) (L1 := [some (.ref 123), some (.int what)]) (st1 := [.ref 123]) (s1 := s) rfl ?_
  refine UP.cV (M1 := m_X7_runsTold) (as := [.ref 123]) (rest := []) (T := F_runsTold s ) rfl rfl (ux_runsTold s ) (fun z1 e1 => ?_)
  refine UP.stp 1 (i1 := 3) (L1 := [some (.ref 123), some (.int what)]) (st1 := [.int what]) (s1 := z1) rfl ?_
  refine mrg (m_cmp .ne what 0) (z1 123 23) (z1 123 22) (fun v2 : Int32 => UP m_X7_groundedOf 9 [some (.ref 123), some (.int what)] [.int v2] z1 (Qb (F_groundedOf s what))) (fun cc kk => ?_) (fun cc kk => ?_) (fun v2 e2 => ?_)
  · skip
    refine UP.ifT rfl cc ?_
    refine UP.stp 2 (i1 := 9) (L1 := [some (.ref 123), some (.int what)]) (st1 := [.int (z1 123 23)]) (s1 := z1) rfl ?_
    exact kk
  · skip
    refine UP.ifF rfl cc ?_
    refine UP.stp 3 (i1 := 9) (L1 := [some (.ref 123), some (.int what)]) (st1 := [.int (z1 123 22)]) (s1 := z1) rfl ?_
    exact kk
  exact UP.ret (r := some (.int v2)) rfl ⟨by subst e2 e1; rfl, by subst e2 e1; rfl⟩
def W_grounded : List (Nat × Nat × Option Nat) := [(126, 129, none), (133, 144, none), (147, 147, none), (123, 123, some 2), (123, 123, some 5), (123, 123, some 7), (123, 123, some 17), (123, 123, some 19), (123, 123, some 20), (123, 123, some 21), (123, 123, some 22), (123, 123, some 23), (123, 123, some 24), (123, 123, some 25), (123, 123, some 26), (123, 123, some 27)]
def F_grounded (s : SG) (what : Int32) : Int32 × SG := let w3 := bif m_cmp .eq (F_isTwo s what) 0 then ((-2 : Int32), s) else ((F_groundedOf s what).1, (F_groundedOf s what).2); (w3.1, w3.2)
theorem fr_grounded (s : SG) (what : Int32)  : Fr W_grounded s (F_grounded s what).2 := (Fr.bifp (fun x : Int32 × SG => x.2) (Fr.rf _ _) (Fr.tr (Fr.rf _ _) (Fr.wk (W2 := W_grounded) (fr_groundedOf _ _) (by rfl))))
theorem ux_grounded (s : SG) (what : Int32)  : UP m_X7_grounded 0 (m_ent 2 [.ref 123, .int what]) [] s (Qb (F_grounded s what)) := by
  refine UP.stp 1 (i1 := 1) (L1 := [some (.ref 123), some (.int what)]) (st1 := [.int what]) (s1 := s) rfl ?_
  refine UP.cI (M1 := m_X7_isTwo) (as := [.int what]) (rest := []) (T := F_isTwo s what) rfl rfl (ux_isTwo s what) ?_
  refine mrg (m_cmp .eq (F_isTwo s what) 0) ((-2 : Int32), s) ((F_groundedOf s what).1, (F_groundedOf s what).2) (fun w3 : Int32 × SG => UP m_X7_grounded 8 [some (.ref 123), some (.int what)] [.int w3.1] w3.2 (Qb (F_grounded s what))) (fun cc kk => ?_) (fun cc kk => ?_) (fun w3 e3 => ?_)
  · skip
    refine UP.ifT rfl cc ?_
    refine UP.stp 1 (i1 := 8) (L1 := [some (.ref 123), some (.int what)]) (st1 := [.int (-2)]) (s1 := s) rfl ?_
    exact kk
  · skip
    refine UP.ifF rfl cc ?_
    refine UP.stp 2 (i1 := 5) (L1 := [some (.ref 123), some (.int what)]) (st1 := [.int what, .ref 123]) (s1 := s) rfl ?_
    refine UP.cB (M1 := m_X7_groundedOf) (as := [.ref 123, .int what]) (rest := []) (T := F_groundedOf s what) rfl rfl (ux_groundedOf s what) (fun z2 e2 => ?_)
    refine UP.stp 1 (i1 := 8) (L1 := [some (.ref 123), some (.int what)]) (st1 := [.int z2.1]) (s1 := z2.2) rfl ?_
    subst e2
    exact kk
  exact UP.ret (r := some (.int w3.1)) rfl ⟨by subst e3; rfl, by subst e3; rfl⟩
def W_strayNow : List (Nat × Nat × Option Nat) := []
def F_strayNow (s : SG)  : Int32 := let v1 := bif m_cmp .ge (s 123 20) 10 then (s 123 20) - 10 else 10 - (s 123 20); v1
theorem ux_strayNow (s : SG)   : UP m_X7_strayNow 0 (m_ent 1 [.ref 123]) [] s (Qi s (F_strayNow s)) := by
  refine UP.stp 3 (i1 := 3) (L1 := [some (.ref 123)]) (st1 := [.int 10, .int (s 123 20)]) (s1 := s) rfl ?_
  refine mrg (m_cmp .ge (s 123 20) 10) ((s 123 20) - 10) (10 - (s 123 20)) (fun v1 : Int32 => UP m_X7_strayNow 13 [some (.ref 123)] [.int v1] s (Qi s (F_strayNow s))) (fun cc kk => ?_) (fun cc kk => ?_) (fun v1 e1 => ?_)
  · skip
    refine UP.icT rfl cc ?_
    refine UP.stp 4 (i1 := 13) (L1 := [some (.ref 123)]) (st1 := [.int ((s 123 20) - 10)]) (s1 := s) rfl ?_
    exact kk
  · skip
    refine UP.icF rfl cc ?_
    refine UP.stp 5 (i1 := 13) (L1 := [some (.ref 123)]) (st1 := [.int (10 - (s 123 20))]) (s1 := s) rfl ?_
    exact kk
  exact UP.ret (r := some (.int v1)) rfl ⟨by subst e1; rfl, by subst e1; rfl⟩
def W_strayOf : List (Nat × Nat × Option Nat) := [(126, 129, none), (133, 144, none), (147, 147, none), (123, 123, some 2), (123, 123, some 5), (123, 123, some 7), (123, 123, some 17), (123, 123, some 19), (123, 123, some 20), (123, 123, some 21), (123, 123, some 22), (123, 123, some 23), (123, 123, some 24), (123, 123, some 25), (123, 123, some 26), (123, 123, some 27)]
def F_strayOf (s : SG) (what : Int32) : Int32 × SG := let z1 := F_runsTold s ; let v3 := bif m_cmp .ne what 0 then z1 123 24 else F_strayNow z1; (v3, z1)
theorem fr_strayOf (s : SG) (what : Int32)  : Fr W_strayOf s (F_strayOf s what).2 := (Fr.tr (Fr.rf _ _) (Fr.wk (W2 := W_strayOf) (fr_runsTold _) (by rfl)))
theorem ux_strayOf (s : SG) (what : Int32)  : UP m_X7_strayOf 0 (m_ent 2 [.ref 123, .int what]) [] s (Qb (F_strayOf s what)) := by
  refine UP.stp 1 (i1 := 1) (L1 := [some (.ref 123), some (.int what)]) (st1 := [.ref 123]) (s1 := s) rfl ?_
  refine UP.cV (M1 := m_X7_runsTold) (as := [.ref 123]) (rest := []) (T := F_runsTold s ) rfl rfl (ux_runsTold s ) (fun z1 e1 => ?_)
  refine UP.stp 1 (i1 := 3) (L1 := [some (.ref 123), some (.int what)]) (st1 := [.int what]) (s1 := z1) rfl ?_
  refine mrg (m_cmp .ne what 0) (z1 123 24) (F_strayNow z1) (fun v3 : Int32 => UP m_X7_strayOf 9 [some (.ref 123), some (.int what)] [.int v3] z1 (Qb (F_strayOf s what))) (fun cc kk => ?_) (fun cc kk => ?_) (fun v3 e3 => ?_)
  · skip
    refine UP.ifT rfl cc ?_
    refine UP.stp 2 (i1 := 9) (L1 := [some (.ref 123), some (.int what)]) (st1 := [.int (z1 123 24)]) (s1 := z1) rfl ?_
    exact kk
  · skip
    refine UP.ifF rfl cc ?_
    refine UP.stp 1 (i1 := 5) (L1 := [some (.ref 123), some (.int what)]) (st1 := [.ref 123]) (s1 := z1) rfl ?_
    refine UP.cI (M1 := m_X7_strayNow) (as := [.ref 123]) (rest := []) (T := F_strayNow z1 ) rfl rfl (ux_strayNow z1 ) ?_
    refine UP.stp 1 (i1 := 9) (L1 := [some (.ref 123), some (.int what)]) (st1 := [.int (F_strayNow z1)]) (s1 := z1) rfl ?_
    exact kk
  exact UP.ret (r := some (.int v3)) rfl ⟨by subst e3 e1; rfl, by subst e3 e1; rfl⟩
def W_stray : List (Nat × Nat × Option Nat) := [(126, 129, none), (133, 144, none), (147, 147, none), (123, 123, some 2), (123, 123, some 5), (123, 123, some 7), (123, 123, some 17), (123, 123, some 19), (123, 123, some 20), (123, 123, some 21), (123, 123, some 22), (123, 123, some 23), (123, 123, some 24), (123, 123, some 25), (123, 123, some 26), (123, 123, some 27)]
def F_stray (s : SG) (what : Int32) : Int32 × SG := let w3 := bif m_cmp .eq (F_isTwo s what) 0 then ((-2 : Int32), s) else ((F_strayOf s what).1, (F_strayOf s what).2); (w3.1, w3.2)
theorem fr_stray (s : SG) (what : Int32)  : Fr W_stray s (F_stray s what).2 := (Fr.bifp (fun x : Int32 × SG => x.2) (Fr.rf _ _) (Fr.tr (Fr.rf _ _) (Fr.wk (W2 := W_stray) (fr_strayOf _ _) (by rfl))))
theorem ux_stray (s : SG) (what : Int32)  : UP m_X7_stray 0 (m_ent 2 [.ref 123, .int what]) [] s (Qb (F_stray s what)) := by
  refine UP.stp 1 (i1 := 1) (L1 := [some (.ref 123), some (.int what)]) (st1 := [.int what]) (s1 := s) rfl ?_
  refine UP.cI (M1 := m_X7_isTwo) (as := [.int what]) (rest := []) (T := F_isTwo s what) rfl rfl (ux_isTwo s what) ?_
  refine mrg (m_cmp .eq (F_isTwo s what) 0) ((-2 : Int32), s) ((F_strayOf s what).1, (F_strayOf s what).2) (fun w3 : Int32 × SG => UP m_X7_stray 8 [some (.ref 123), some (.int what)] [.int w3.1] w3.2 (Qb (F_stray s what))) (fun cc kk => ?_) (fun cc kk => ?_) (fun w3 e3 => ?_)
  · skip
    refine UP.ifT rfl cc ?_
    refine UP.stp 1 (i1 := 8) (L1 := [some (.ref 123), some (.int what)]) (st1 := [.int (-2)]) (s1 := s) rfl ?_
    exact kk
  · skip
    refine UP.ifF rfl cc ?_
    refine UP.stp 2 (i1 := 5) (L1 := [some (.ref 123), some (.int what)]) (st1 := [.int what, .ref 123]) (s1 := s) rfl ?_
    refine UP.cB (M1 := m_X7_strayOf) (as := [.ref 123, .int what]) (rest := []) (T := F_strayOf s what) rfl rfl (ux_strayOf s what) (fun z2 e2 => ?_)
    refine UP.stp 1 (i1 := 8) (L1 := [some (.ref 123), some (.int what)]) (st1 := [.int z2.1]) (s1 := z2.2) rfl ?_
    subst e2
    exact kk
  exact UP.ret (r := some (.int w3.1)) rfl ⟨by subst e3; rfl, by subst e3; rfl⟩
def W_bestOf : List (Nat × Nat × Option Nat) := [(126, 129, none), (133, 144, none), (147, 147, none), (123, 123, some 2), (123, 123, some 5), (123, 123, some 7), (123, 123, some 17), (123, 123, some 19), (123, 123, some 20), (123, 123, some 21), (123, 123, some 22), (123, 123, some 23), (123, 123, some 24), (123, 123, some 25), (123, 123, some 26), (123, 123, some 27)]
def B_bestOf_8 (z1 : SG) (i2 : Nat) (a2 : Int32 × Int32) : Int32 × Int32 := let v3 := bif m_cmp .le (z1 138 i2) a2.2 then a2.1 else Int32.ofNat i2; let v4 := bif m_cmp .le (z1 138 i2) a2.2 then a2.2 else z1 138 i2; (v3, v4)
def F_bestOf (s : SG)  : Int32 × SG := let z1 := F_runsTold s ; let z2 := itr (B_bestOf_8 z1) 0 ((z1 123 2).toNatClampNeg) ((-1), 0); (z2.1, z1)
theorem fr_bestOf (s : SG)   : Fr W_bestOf s (F_bestOf s).2 := (Fr.tr (Fr.rf _ _) (Fr.wk (W2 := W_bestOf) (fr_runsTold _) (by rfl)))
theorem ux_bestOf (s : SG)   : UP m_X7_bestOf 0 (m_ent 4 [.ref 123]) [] s (Qb (F_bestOf s)) := by
  refine UP.stp 1 (i1 := 1) (L1 := [some (.ref 123), none, none, none]) (st1 := [.ref 123]) (s1 := s) rfl ?_
  refine UP.cV (M1 := m_X7_runsTold) (as := [.ref 123]) (rest := []) (T := F_runsTold s ) rfl rfl (ux_runsTold s ) (fun z1 e1 => ?_)
  refine UP.stp 6 (i1 := 8) (L1 := [some (.ref 123), some (.int (-1)), some (.int 0), some (.int 0)]) (st1 := []) (s1 := z1) rfl ?_
  refine lp (fun (i2 : Nat) (a2 : Int32 × Int32) => UP m_X7_bestOf 8 [some (.ref 123), some (.int a2.1), some (.int a2.2), some (.int (Int32.ofNat i2))] [] z1 (Qb (F_bestOf s))) (fun (_ : Nat) (a2 : Int32 × Int32) => Fr W_bestOf z1 z1) (B_bestOf_8 z1) ((z1 123 2).toNatClampNeg) (fun i2 a2 hi2 g2 => g2) (fun i2 a2 hi2 g2 kk => ?_) ((z1 123 2).toNatClampNeg) (0) ((-1), 0) (by omega) (Fr.rf _ _) (fun z2 e2 g2 => ?_)
  · skip
    have hbi2 := cl_lt (z1 123 2)
    refine UP.stp 3 (i1 := 11) (L1 := [some (.ref 123), some (.int a2.1), some (.int a2.2), some (.int (Int32.ofNat i2))]) (st1 := [.int (z1 123 2), .int (Int32.ofNat i2)]) (s1 := z1) rfl ?_
    refine UP.icF rfl (ge_F hi2) ?_
    refine UP.stp 3 (i1 := 15) (L1 := [some (.ref 123), some (.int a2.1), some (.int a2.2), some (.int (Int32.ofNat i2))]) (st1 := [.int (Int32.ofNat i2), .ref 138]) (s1 := z1) rfl ?_
    refine UP.ald (e := i2) rfl rfl (by omega) ?_
    show UP m_X7_bestOf 16 [some (.ref 123), some (.int a2.1), some (.int a2.2), some (.int (Int32.ofNat i2))] [.int (z1 138 i2)] z1 (Qb (F_bestOf s))
    refine UP.stp 1 (i1 := 17) (L1 := [some (.ref 123), some (.int a2.1), some (.int a2.2), some (.int (Int32.ofNat i2))]) (st1 := [.int a2.2, .int (z1 138 i2)]) (s1 := z1) rfl ?_
    refine mrg (m_cmp .le (z1 138 i2) a2.2) a2.1 (Int32.ofNat i2) (fun v3 : Int32 => UP m_X7_bestOf 21 [some (.ref 123), some (.int a2.1), some (.int a2.2), some (.int (Int32.ofNat i2))] [.int v3] z1 (Qb (F_bestOf s))) (fun cc kk => ?_) (fun cc kk => ?_) (fun v3 e3 => ?_)
    · skip
      refine UP.icT rfl cc ?_
      refine UP.stp 1 (i1 := 21) (L1 := [some (.ref 123), some (.int a2.1), some (.int a2.2), some (.int (Int32.ofNat i2))]) (st1 := [.int a2.1]) (s1 := z1) rfl ?_
      exact kk
    · skip
      refine UP.icF rfl cc ?_
      refine UP.stp 2 (i1 := 21) (L1 := [some (.ref 123), some (.int a2.1), some (.int a2.2), some (.int (Int32.ofNat i2))]) (st1 := [.int (Int32.ofNat i2)]) (s1 := z1) rfl ?_
      exact kk
    refine UP.stp 4 (i1 := 25) (L1 := [some (.ref 123), some (.int v3), some (.int a2.2), some (.int (Int32.ofNat i2))]) (st1 := [.int (Int32.ofNat i2), .ref 138]) (s1 := z1) rfl ?_
    refine UP.ald (e := i2) rfl rfl (by omega) ?_
    show UP m_X7_bestOf 26 [some (.ref 123), some (.int v3), some (.int a2.2), some (.int (Int32.ofNat i2))] [.int (z1 138 i2)] z1 (Qb (F_bestOf s))
    refine UP.stp 1 (i1 := 27) (L1 := [some (.ref 123), some (.int v3), some (.int a2.2), some (.int (Int32.ofNat i2))]) (st1 := [.int a2.2, .int (z1 138 i2)]) (s1 := z1) rfl ?_
    refine mrg (m_cmp .le (z1 138 i2) a2.2) a2.2 (z1 138 i2) (fun v4 : Int32 => UP m_X7_bestOf 34 [some (.ref 123), some (.int v3), some (.int a2.2), some (.int (Int32.ofNat i2))] [.int v4] z1 (Qb (F_bestOf s))) (fun cc kk => ?_) (fun cc kk => ?_) (fun v4 e4 => ?_)
    · skip
      refine UP.icT rfl cc ?_
      refine UP.stp 1 (i1 := 34) (L1 := [some (.ref 123), some (.int v3), some (.int a2.2), some (.int (Int32.ofNat i2))]) (st1 := [.int a2.2]) (s1 := z1) rfl ?_
      exact kk
    · skip
      refine UP.icF rfl cc ?_
      refine UP.stp 3 (i1 := 31) (L1 := [some (.ref 123), some (.int v3), some (.int a2.2), some (.int (Int32.ofNat i2))]) (st1 := [.int (Int32.ofNat i2), .ref 138]) (s1 := z1) rfl ?_
      refine UP.ald (e := i2) rfl rfl (by omega) ?_
      show UP m_X7_bestOf 32 [some (.ref 123), some (.int v3), some (.int a2.2), some (.int (Int32.ofNat i2))] [.int (z1 138 i2)] z1 (Qb (F_bestOf s))
      refine UP.stp 1 (i1 := 34) (L1 := [some (.ref 123), some (.int v3), some (.int a2.2), some (.int (Int32.ofNat i2))]) (st1 := [.int (z1 138 i2)]) (s1 := z1) rfl ?_
      exact kk
    refine UP.stp 3 (i1 := 8) (L1 := [some (.ref 123), some (.int v3), some (.int v4), some (.int ((Int32.ofNat i2) + 1))]) (st1 := []) (s1 := z1) rfl ?_
    subst e4 e3
    rw [ofn_s]
    exact kk
  refine UP.stp 3 (i1 := 11) (L1 := [some (.ref 123), some (.int z2.1), some (.int z2.2), some (.int (Int32.ofNat ((z1 123 2).toNatClampNeg)))]) (st1 := [.int (z1 123 2), .int (Int32.ofNat ((z1 123 2).toNatClampNeg))]) (s1 := z1) rfl ?_
  refine UP.icT rfl (ge_T _) ?_
  refine UP.stp 1 (i1 := 38) (L1 := [some (.ref 123), some (.int z2.1), some (.int z2.2), some (.int (Int32.ofNat ((z1 123 2).toNatClampNeg)))]) (st1 := [.int z2.1]) (s1 := z1) rfl ?_
  exact UP.ret (r := some (.int z2.1)) rfl ⟨by subst e2 e1; rfl, by subst e2 e1; rfl⟩
def W_best : List (Nat × Nat × Option Nat) := [(126, 129, none), (133, 144, none), (147, 147, none), (123, 123, some 2), (123, 123, some 5), (123, 123, some 7), (123, 123, some 17), (123, 123, some 19), (123, 123, some 20), (123, 123, some 21), (123, 123, some 22), (123, 123, some 23), (123, 123, some 24), (123, 123, some 25), (123, 123, some 26), (123, 123, some 27)]
def F_best (s : SG)  : Int32 × SG := let z1 := F_bestOf s ; (z1.1, z1.2)
theorem fr_best (s : SG)   : Fr W_best s (F_best s).2 := (Fr.tr (Fr.rf _ _) (Fr.wk (W2 := W_best) (fr_bestOf _) (by rfl)))
theorem ux_best (s : SG)   : UP m_X7_best 0 (m_ent 1 [.ref 123]) [] s (Qb (F_best s)) := by
  refine UP.stp 1 (i1 := 1) (L1 := [some (.ref 123)]) (st1 := [.ref 123]) (s1 := s) rfl ?_
  refine UP.cB (M1 := m_X7_bestOf) (as := [.ref 123]) (rest := []) (T := F_bestOf s ) rfl rfl (ux_bestOf s ) (fun z1 e1 => ?_)
  exact UP.ret (r := some (.int z1.1)) rfl ⟨by subst e1; rfl, by subst e1; rfl⟩
def W_idleOf : List (Nat × Nat × Option Nat) := [(126, 129, none), (133, 144, none), (147, 147, none), (123, 123, some 2), (123, 123, some 5), (123, 123, some 7), (123, 123, some 17), (123, 123, some 19), (123, 123, some 20), (123, 123, some 21), (123, 123, some 22), (123, 123, some 23), (123, 123, some 24), (123, 123, some 25), (123, 123, some 26), (123, 123, some 27)]
def B_idleOf_6 (z1 : SG) (i2 : Nat) (a2 : Int32) : Int32 := let v3 := bif m_cmp .ne (z1 137 i2) 0 then (0 : Int32) else 1 <<< ((Int32.ofNat i2) &&& 31); let v4 := a2 ||| v3; v4
def F_idleOf (s : SG)  : Int32 × SG := let z1 := F_runsTold s ; let z2 := itr (B_idleOf_6 z1) 0 ((z1 123 2).toNatClampNeg) (0 : Int32); (z2, z1)
theorem fr_idleOf (s : SG)   : Fr W_idleOf s (F_idleOf s).2 := (Fr.tr (Fr.rf _ _) (Fr.wk (W2 := W_idleOf) (fr_runsTold _) (by rfl)))
theorem ux_idleOf (s : SG)   : UP m_X7_idleOf 0 (m_ent 3 [.ref 123]) [] s (Qb (F_idleOf s)) := by
  refine UP.stp 1 (i1 := 1) (L1 := [some (.ref 123), none, none]) (st1 := [.ref 123]) (s1 := s) rfl ?_
  refine UP.cV (M1 := m_X7_runsTold) (as := [.ref 123]) (rest := []) (T := F_runsTold s ) rfl rfl (ux_runsTold s ) (fun z1 e1 => ?_)
  refine UP.stp 4 (i1 := 6) (L1 := [some (.ref 123), some (.int 0), some (.int 0)]) (st1 := []) (s1 := z1) rfl ?_
  refine lp (fun (i2 : Nat) (a2 : Int32) => UP m_X7_idleOf 6 [some (.ref 123), some (.int a2), some (.int (Int32.ofNat i2))] [] z1 (Qb (F_idleOf s))) (fun (_ : Nat) (a2 : Int32) => Fr W_idleOf z1 z1) (B_idleOf_6 z1) ((z1 123 2).toNatClampNeg) (fun i2 a2 hi2 g2 => g2) (fun i2 a2 hi2 g2 kk => ?_) ((z1 123 2).toNatClampNeg) (0) (0 : Int32) (by omega) (Fr.rf _ _) (fun z2 e2 g2 => ?_)
  · skip
    have hbi2 := cl_lt (z1 123 2)
    refine UP.stp 3 (i1 := 9) (L1 := [some (.ref 123), some (.int a2), some (.int (Int32.ofNat i2))]) (st1 := [.int (z1 123 2), .int (Int32.ofNat i2)]) (s1 := z1) rfl ?_
    refine UP.icF rfl (ge_F hi2) ?_
    refine UP.stp 4 (i1 := 14) (L1 := [some (.ref 123), some (.int a2), some (.int (Int32.ofNat i2))]) (st1 := [.int (Int32.ofNat i2), .ref 137, .int a2]) (s1 := z1) rfl ?_
    refine UP.ald (e := i2) rfl rfl (by omega) ?_
    show UP m_X7_idleOf 15 [some (.ref 123), some (.int a2), some (.int (Int32.ofNat i2))] [.int (z1 137 i2), .int a2] z1 (Qb (F_idleOf s))
    refine mrg (m_cmp .ne (z1 137 i2) 0) (0 : Int32) (1 <<< ((Int32.ofNat i2) &&& 31)) (fun v3 : Int32 => UP m_X7_idleOf 21 [some (.ref 123), some (.int a2), some (.int (Int32.ofNat i2))] [.int v3, .int a2] z1 (Qb (F_idleOf s))) (fun cc kk => ?_) (fun cc kk => ?_) (fun v3 e3 => ?_)
    · skip
      refine UP.ifT rfl cc ?_
      refine UP.stp 1 (i1 := 21) (L1 := [some (.ref 123), some (.int a2), some (.int (Int32.ofNat i2))]) (st1 := [.int 0, .int a2]) (s1 := z1) rfl ?_
      exact kk
    · skip
      refine UP.ifF rfl cc ?_
      refine UP.stp 4 (i1 := 21) (L1 := [some (.ref 123), some (.int a2), some (.int (Int32.ofNat i2))]) (st1 := [.int (1 <<< ((Int32.ofNat i2) &&& 31)), .int a2]) (s1 := z1) rfl ?_
      exact kk
    refine UP.stp 1 (i1 := 22) (L1 := [some (.ref 123), some (.int a2), some (.int (Int32.ofNat i2))]) (st1 := [.int (a2 ||| v3)]) (s1 := z1) rfl ?_
    refine nm (G := fun v4 => UP m_X7_idleOf 22 [some (.ref 123), some (.int a2), some (.int (Int32.ofNat i2))] [.int v4] z1 (Qb (F_idleOf s))) (a2 ||| v3) (fun v4 e4 => ?_)
    refine UP.stp 3 (i1 := 6) (L1 := [some (.ref 123), some (.int v4), some (.int ((Int32.ofNat i2) + 1))]) (st1 := []) (s1 := z1) rfl ?_
    subst e4 e3
    rw [ofn_s]
    exact kk
  refine UP.stp 3 (i1 := 9) (L1 := [some (.ref 123), some (.int z2), some (.int (Int32.ofNat ((z1 123 2).toNatClampNeg)))]) (st1 := [.int (z1 123 2), .int (Int32.ofNat ((z1 123 2).toNatClampNeg))]) (s1 := z1) rfl ?_
  refine UP.icT rfl (ge_T _) ?_
  refine UP.stp 1 (i1 := 26) (L1 := [some (.ref 123), some (.int z2), some (.int (Int32.ofNat ((z1 123 2).toNatClampNeg)))]) (st1 := [.int z2]) (s1 := z1) rfl ?_
  exact UP.ret (r := some (.int z2)) rfl ⟨by subst e2 e1; rfl, by subst e2 e1; rfl⟩
def W_idle : List (Nat × Nat × Option Nat) := [(126, 129, none), (133, 144, none), (147, 147, none), (123, 123, some 2), (123, 123, some 5), (123, 123, some 7), (123, 123, some 17), (123, 123, some 19), (123, 123, some 20), (123, 123, some 21), (123, 123, some 22), (123, 123, some 23), (123, 123, some 24), (123, 123, some 25), (123, 123, some 26), (123, 123, some 27)]
def F_idle (s : SG)  : Int32 × SG := let z1 := F_idleOf s ; (z1.1, z1.2)
theorem fr_idle (s : SG)   : Fr W_idle s (F_idle s).2 := (Fr.tr (Fr.rf _ _) (Fr.wk (W2 := W_idle) (fr_idleOf _) (by rfl)))
theorem ux_idle (s : SG)   : UP m_X7_idle 0 (m_ent 1 [.ref 123]) [] s (Qb (F_idle s)) := by
  refine UP.stp 1 (i1 := 1) (L1 := [some (.ref 123)]) (st1 := [.ref 123]) (s1 := s) rfl ?_
  refine UP.cB (M1 := m_X7_idleOf) (as := [.ref 123]) (rest := []) (T := F_idleOf s ) rfl rfl (ux_idleOf s ) (fun z1 e1 => ?_)
  exact UP.ret (r := some (.int z1.1)) rfl ⟨by subst e1; rfl, by subst e1; rfl⟩
def W_steerOf : List (Nat × Nat × Option Nat) := [(126, 129, none), (133, 144, none), (147, 147, none), (123, 123, some 2), (123, 123, some 5), (123, 123, some 7), (123, 123, some 17), (123, 123, some 19), (123, 123, some 20), (123, 123, some 21), (123, 123, some 22), (123, 123, some 23), (123, 123, some 24), (123, 123, some 25), (123, 123, some 26), (123, 123, some 27)]
def B_steerOf_8 (minute : Int32) (i2 : Nat) (a2 : SG × Int32 × Int32) : SG × Int32 × Int32 := let z3 := F_runs (uset a2.1 134 minute.toNatClampNeg (Int32.ofNat i2)) ; let v5 := F_strayNow z3; let v7 := bif m_cmp .eq a2.2.1 (-1) then (1 : Int32) else (bif m_cmp .ge v5 a2.2.2 then (0 : Int32) else (1 : Int32)); let v8 := bif m_cmp .eq v7 0 then a2.2.1 else Int32.ofNat i2; let v9 := bif m_cmp .eq v7 0 then a2.2.2 else v5; (z3, v8, v9)
theorem fr_B_steerOf_8 (minute : Int32) (i2 : Nat) (a2 : SG × Int32 × Int32)  (hi2 : i2 < 3) : Fr W_steerOf a2.1 ((B_steerOf_8 minute) i2 a2).1 := (Fr.tr (Fr.uset (by rfl) (Fr.rf _ _)) (Fr.wk (W2 := W_steerOf) (fr_runs _) (by rfl)))
def F_steerOf (s : SG) (minute : Int32) (what : Int32) : Int32 × SG := let z1 := F_asTold s ; let z2 := itr (B_steerOf_8 minute) 0 3 (z1, (-1), 0); let v10 := bif m_cmp .ne what 0 then z2.2.2 else z2.2.1; (v10, z2.1)
theorem fr_steerOf (s : SG) (minute : Int32) (what : Int32)  : Fr W_steerOf s (F_steerOf s minute what).2 := (frItrB (W := W_steerOf) (m := (fun x : SG × Int32 × Int32 => x.1)) 3 (fun i a h => Fr.wk (W2 := W_steerOf) (fr_B_steerOf_8 _ i a  h) (by rfl)) _ _ _ (by omega) (Fr.tr (Fr.rf _ _) (Fr.wk (W2 := W_steerOf) (fr_asTold _) (by rfl))))
theorem ux_steerOf (s : SG) (minute : Int32) (what : Int32)  : UP m_X7_steerOf 0 (m_ent 8 [.ref 123, .int minute, .int what]) [] s (Qb (F_steerOf s minute what)) := by
  refine UP.stp 1 (i1 := 1) (L1 := [some (.ref 123), some (.int minute), some (.int what), none, none, none, none, none]) (st1 := [.ref 123]) (s1 := s) rfl ?_
  refine UP.cV (M1 := m_X7_asTold) (as := [.ref 123]) (rest := []) (T := F_asTold s ) rfl rfl (ux_asTold s ) (fun z1 e1 => ?_)
  refine UP.stp 6 (i1 := 8) (L1 := [some (.ref 123), some (.int minute), some (.int what), some (.int (-1)), some (.int 0), some (.int 0), none, none]) (st1 := []) (s1 := z1) rfl ?_
  refine lp (fun (i2 : Nat) (a2 : SG × Int32 × Int32) => ∀ (u2_6 : Option Value) (u2_7 : Option Value), UP m_X7_steerOf 8 [some (.ref 123), some (.int minute), some (.int what), some (.int a2.2.1), some (.int a2.2.2), some (.int (Int32.ofNat i2)), u2_6, u2_7] [] a2.1 (Qb (F_steerOf s minute what))) (fun (_ : Nat) (a2 : SG × Int32 × Int32) => Fr W_steerOf z1 a2.1) (B_steerOf_8 minute) (3) (fun i2 a2 hi2 g2 => g2.tr (fr_B_steerOf_8 minute i2 a2 hi2)) (fun i2 a2 hi2 g2 kk => ?_) 3 (0) (z1, (-1), 0) (by omega) (Fr.rf _ _) (fun z2 e2 g2 => ?_) none none
  · skip
    intro u2_6 u2_7
    refine UP.stp 2 (i1 := 10) (L1 := [some (.ref 123), some (.int minute), some (.int what), some (.int a2.2.1), some (.int a2.2.2), some (.int (Int32.ofNat i2)), u2_6, u2_7]) (st1 := [.int 3, .int (Int32.ofNat i2)]) (s1 := a2.1) rfl ?_
    refine UP.icF rfl (ge_F (show i2 < (3 : Int32).toNatClampNeg from hi2)) ?_
    refine UP.stp 6 (i1 := 17) (L1 := [some (.ref 123), some (.int minute), some (.int what), some (.int a2.2.1), some (.int a2.2.2), some (.int (Int32.ofNat i2)), u2_6, u2_7]) (st1 := [.ref 123]) (s1 := (uset a2.1 134 minute.toNatClampNeg (Int32.ofNat i2))) rfl ?_
    refine UP.cV (M1 := m_X7_runs) (as := [.ref 123]) (rest := []) (T := F_runs (uset a2.1 134 minute.toNatClampNeg (Int32.ofNat i2)) ) rfl rfl (ux_runs (uset a2.1 134 minute.toNatClampNeg (Int32.ofNat i2)) ) (fun z3 e3 => ?_)
    refine UP.stp 1 (i1 := 19) (L1 := [some (.ref 123), some (.int minute), some (.int what), some (.int a2.2.1), some (.int a2.2.2), some (.int (Int32.ofNat i2)), u2_6, u2_7]) (st1 := [.ref 123]) (s1 := z3) rfl ?_
    refine UP.cI (M1 := m_X7_strayNow) (as := [.ref 123]) (rest := []) (T := F_strayNow z3 ) rfl rfl (ux_strayNow z3 ) ?_
    refine nm (G := fun v5 => UP m_X7_steerOf 20 [some (.ref 123), some (.int minute), some (.int what), some (.int a2.2.1), some (.int a2.2.2), some (.int (Int32.ofNat i2)), u2_6, u2_7] [.int v5] z3 (Qb (F_steerOf s minute what))) (F_strayNow z3) (fun v5 e5 => ?_)
    refine UP.stp 3 (i1 := 23) (L1 := [some (.ref 123), some (.int minute), some (.int what), some (.int a2.2.1), some (.int a2.2.2), some (.int (Int32.ofNat i2)), some (.int v5), u2_7]) (st1 := [.int (-1), .int a2.2.1]) (s1 := z3) rfl ?_
    refine mrg (m_cmp .eq a2.2.1 (-1)) (1 : Int32) (bif m_cmp .ge v5 a2.2.2 then (0 : Int32) else (1 : Int32)) (fun v7 : Int32 => UP m_X7_steerOf 30 [some (.ref 123), some (.int minute), some (.int what), some (.int a2.2.1), some (.int a2.2.2), some (.int (Int32.ofNat i2)), some (.int v5), u2_7] [.int v7] z3 (Qb (F_steerOf s minute what))) (fun cc kk => ?_) (fun cc kk => ?_) (fun v7 e7 => ?_)
    · skip
      refine UP.icT rfl cc ?_
      refine UP.stp 2 (i1 := 30) (L1 := [some (.ref 123), some (.int minute), some (.int what), some (.int a2.2.1), some (.int a2.2.2), some (.int (Int32.ofNat i2)), some (.int v5), u2_7]) (st1 := [.int 1]) (s1 := z3) rfl ?_
      exact kk
    · skip
      refine UP.icF rfl cc ?_
      refine UP.stp 2 (i1 := 26) (L1 := [some (.ref 123), some (.int minute), some (.int what), some (.int a2.2.1), some (.int a2.2.2), some (.int (Int32.ofNat i2)), some (.int v5), u2_7]) (st1 := [.int a2.2.2, .int v5]) (s1 := z3) rfl ?_
      refine mrg (m_cmp .ge v5 a2.2.2) (0 : Int32) (1 : Int32) (fun v6 : Int32 => UP m_X7_steerOf 30 [some (.ref 123), some (.int minute), some (.int what), some (.int a2.2.1), some (.int a2.2.2), some (.int (Int32.ofNat i2)), some (.int v5), u2_7] [.int v6] z3 (Qb (F_steerOf s minute what))) (fun cc kk => ?_) (fun cc kk => ?_) (fun v6 e6 => ?_)
      · skip
        refine UP.icT rfl cc ?_
        refine UP.stp 1 (i1 := 30) (L1 := [some (.ref 123), some (.int minute), some (.int what), some (.int a2.2.1), some (.int a2.2.2), some (.int (Int32.ofNat i2)), some (.int v5), u2_7]) (st1 := [.int 0]) (s1 := z3) rfl ?_
        exact kk
      · skip
        refine UP.icF rfl cc ?_
        refine UP.stp 2 (i1 := 30) (L1 := [some (.ref 123), some (.int minute), some (.int what), some (.int a2.2.1), some (.int a2.2.2), some (.int (Int32.ofNat i2)), some (.int v5), u2_7]) (st1 := [.int 1]) (s1 := z3) rfl ?_
        exact kk
      subst e6
      exact kk
    refine UP.stp 2 (i1 := 32) (L1 := [some (.ref 123), some (.int minute), some (.int what), some (.int a2.2.1), some (.int a2.2.2), some (.int (Int32.ofNat i2)), some (.int v5), some (.int v7)]) (st1 := [.int v7]) (s1 := z3) rfl ?_
    refine mrg (m_cmp .eq v7 0) a2.2.1 (Int32.ofNat i2) (fun v8 : Int32 => UP m_X7_steerOf 36 [some (.ref 123), some (.int minute), some (.int what), some (.int a2.2.1), some (.int a2.2.2), some (.int (Int32.ofNat i2)), some (.int v5), some (.int v7)] [.int v8] z3 (Qb (F_steerOf s minute what))) (fun cc kk => ?_) (fun cc kk => ?_) (fun v8 e8 => ?_)
    · skip
      refine UP.ifT rfl cc ?_
      refine UP.stp 1 (i1 := 36) (L1 := [some (.ref 123), some (.int minute), some (.int what), some (.int a2.2.1), some (.int a2.2.2), some (.int (Int32.ofNat i2)), some (.int v5), some (.int v7)]) (st1 := [.int a2.2.1]) (s1 := z3) rfl ?_
      exact kk
    · skip
      refine UP.ifF rfl cc ?_
      refine UP.stp 2 (i1 := 36) (L1 := [some (.ref 123), some (.int minute), some (.int what), some (.int a2.2.1), some (.int a2.2.2), some (.int (Int32.ofNat i2)), some (.int v5), some (.int v7)]) (st1 := [.int (Int32.ofNat i2)]) (s1 := z3) rfl ?_
      exact kk
    refine UP.stp 2 (i1 := 38) (L1 := [some (.ref 123), some (.int minute), some (.int what), some (.int v8), some (.int a2.2.2), some (.int (Int32.ofNat i2)), some (.int v5), some (.int v7)]) (st1 := [.int v7]) (s1 := z3) rfl ?_
    refine mrg (m_cmp .eq v7 0) a2.2.2 v5 (fun v9 : Int32 => UP m_X7_steerOf 42 [some (.ref 123), some (.int minute), some (.int what), some (.int v8), some (.int a2.2.2), some (.int (Int32.ofNat i2)), some (.int v5), some (.int v7)] [.int v9] z3 (Qb (F_steerOf s minute what))) (fun cc kk => ?_) (fun cc kk => ?_) (fun v9 e9 => ?_)
    · skip
      refine UP.ifT rfl cc ?_
      refine UP.stp 1 (i1 := 42) (L1 := [some (.ref 123), some (.int minute), some (.int what), some (.int v8), some (.int a2.2.2), some (.int (Int32.ofNat i2)), some (.int v5), some (.int v7)]) (st1 := [.int a2.2.2]) (s1 := z3) rfl ?_
      exact kk
    · skip
      refine UP.ifF rfl cc ?_
      refine UP.stp 2 (i1 := 42) (L1 := [some (.ref 123), some (.int minute), some (.int what), some (.int v8), some (.int a2.2.2), some (.int (Int32.ofNat i2)), some (.int v5), some (.int v7)]) (st1 := [.int v5]) (s1 := z3) rfl ?_
      exact kk
    refine UP.stp 3 (i1 := 8) (L1 := [some (.ref 123), some (.int minute), some (.int what), some (.int v8), some (.int v9), some (.int ((Int32.ofNat i2) + 1)), some (.int v5), some (.int v7)]) (st1 := []) (s1 := z3) rfl ?_
    subst e9 e8 e7 e5 e3
    rw [ofn_s]
    exact kk _ _
  intro u2_6 u2_7
  refine UP.stp 2 (i1 := 10) (L1 := [some (.ref 123), some (.int minute), some (.int what), some (.int z2.2.1), some (.int z2.2.2), some (.int (Int32.ofNat 3)), u2_6, u2_7]) (st1 := [.int 3, .int (Int32.ofNat 3)]) (s1 := z2.1) rfl ?_
  refine UP.icT rfl (ge_T (3 : Int32)) ?_
  refine UP.stp 1 (i1 := 46) (L1 := [some (.ref 123), some (.int minute), some (.int what), some (.int z2.2.1), some (.int z2.2.2), some (.int (Int32.ofNat 3)), u2_6, u2_7]) (st1 := [.int what]) (s1 := z2.1) rfl ?_
  refine mrg (m_cmp .ne what 0) z2.2.2 z2.2.1 (fun v10 : Int32 => UP m_X7_steerOf 50 [some (.ref 123), some (.int minute), some (.int what), some (.int z2.2.1), some (.int z2.2.2), some (.int (Int32.ofNat 3)), u2_6, u2_7] [.int v10] z2.1 (Qb (F_steerOf s minute what))) (fun cc kk => ?_) (fun cc kk => ?_) (fun v10 e10 => ?_)
  · skip
    refine UP.ifT rfl cc ?_
    refine UP.stp 1 (i1 := 50) (L1 := [some (.ref 123), some (.int minute), some (.int what), some (.int z2.2.1), some (.int z2.2.2), some (.int (Int32.ofNat 3)), u2_6, u2_7]) (st1 := [.int z2.2.2]) (s1 := z2.1) rfl ?_
    exact kk
  · skip
    refine UP.ifF rfl cc ?_
    refine UP.stp 2 (i1 := 50) (L1 := [some (.ref 123), some (.int minute), some (.int what), some (.int z2.2.1), some (.int z2.2.2), some (.int (Int32.ofNat 3)), u2_6, u2_7]) (st1 := [.int z2.2.1]) (s1 := z2.1) rfl ?_
    exact kk
  exact UP.ret (r := some (.int v10)) rfl ⟨by subst e10 e2 e1; rfl, by subst e10 e2 e1; rfl⟩
def W_steer : List (Nat × Nat × Option Nat) := [(126, 129, none), (133, 144, none), (147, 147, none), (123, 123, some 2), (123, 123, some 5), (123, 123, some 7), (123, 123, some 17), (123, 123, some 19), (123, 123, some 20), (123, 123, some 21), (123, 123, some 22), (123, 123, some 23), (123, 123, some 24), (123, 123, some 25), (123, 123, some 26), (123, 123, some 27)]
def F_steer (s : SG) (minute : Int32) (what : Int32) : Int32 × SG := let w5 := bif m_cmp .eq (F_isMinute s minute) 0 then ((-2 : Int32), s) else ((bif m_cmp .eq (F_isTwo s what) 0 then ((-2 : Int32), s) else ((F_steerOf s minute what).1, (F_steerOf s minute what).2)).1, (bif m_cmp .eq (F_isTwo s what) 0 then ((-2 : Int32), s) else ((F_steerOf s minute what).1, (F_steerOf s minute what).2)).2); (w5.1, w5.2)
theorem fr_steer (s : SG) (minute : Int32) (what : Int32)  : Fr W_steer s (F_steer s minute what).2 := (Fr.bifp (fun x : Int32 × SG => x.2) (Fr.rf _ _) (Fr.bifp (fun x : Int32 × SG => x.2) (Fr.rf _ _) (Fr.tr (Fr.rf _ _) (Fr.wk (W2 := W_steer) (fr_steerOf _ _ _) (by rfl)))))
theorem ux_steer (s : SG) (minute : Int32) (what : Int32)  : UP m_X7_steer 0 (m_ent 3 [.ref 123, .int minute, .int what]) [] s (Qb (F_steer s minute what)) := by
  refine UP.stp 1 (i1 := 1) (L1 := [some (.ref 123), some (.int minute), some (.int what)]) (st1 := [.int minute]) (s1 := s) rfl ?_
  refine UP.cI (M1 := m_X7_isMinute) (as := [.int minute]) (rest := []) (T := F_isMinute s minute) rfl rfl (ux_isMinute s minute) ?_
  refine mrg (m_cmp .eq (F_isMinute s minute) 0) ((-2 : Int32), s) ((bif m_cmp .eq (F_isTwo s what) 0 then ((-2 : Int32), s) else ((F_steerOf s minute what).1, (F_steerOf s minute what).2)).1, (bif m_cmp .eq (F_isTwo s what) 0 then ((-2 : Int32), s) else ((F_steerOf s minute what).1, (F_steerOf s minute what).2)).2) (fun w5 : Int32 × SG => UP m_X7_steer 12 [some (.ref 123), some (.int minute), some (.int what)] [.int w5.1] w5.2 (Qb (F_steer s minute what))) (fun cc kk => ?_) (fun cc kk => ?_) (fun w5 e5 => ?_)
  · skip
    refine UP.ifT rfl cc ?_
    refine UP.stp 1 (i1 := 12) (L1 := [some (.ref 123), some (.int minute), some (.int what)]) (st1 := [.int (-2)]) (s1 := s) rfl ?_
    exact kk
  · skip
    refine UP.ifF rfl cc ?_
    refine UP.stp 1 (i1 := 4) (L1 := [some (.ref 123), some (.int minute), some (.int what)]) (st1 := [.int what]) (s1 := s) rfl ?_
    refine UP.cI (M1 := m_X7_isTwo) (as := [.int what]) (rest := []) (T := F_isTwo s what) rfl rfl (ux_isTwo s what) ?_
    refine mrg (m_cmp .eq (F_isTwo s what) 0) ((-2 : Int32), s) ((F_steerOf s minute what).1, (F_steerOf s minute what).2) (fun w4 : Int32 × SG => UP m_X7_steer 12 [some (.ref 123), some (.int minute), some (.int what)] [.int w4.1] w4.2 (Qb (F_steer s minute what))) (fun cc kk => ?_) (fun cc kk => ?_) (fun w4 e4 => ?_)
    · skip
      refine UP.ifT rfl cc ?_
      refine UP.stp 1 (i1 := 12) (L1 := [some (.ref 123), some (.int minute), some (.int what)]) (st1 := [.int (-2)]) (s1 := s) rfl ?_
      exact kk
    · skip
      refine UP.ifF rfl cc ?_
      refine UP.stp 3 (i1 := 9) (L1 := [some (.ref 123), some (.int minute), some (.int what)]) (st1 := [.int what, .int minute, .ref 123]) (s1 := s) rfl ?_
      refine UP.cB (M1 := m_X7_steerOf) (as := [.ref 123, .int minute, .int what]) (rest := []) (T := F_steerOf s minute what) rfl rfl (ux_steerOf s minute what) (fun z3 e3 => ?_)
      refine UP.stp 1 (i1 := 12) (L1 := [some (.ref 123), some (.int minute), some (.int what)]) (st1 := [.int z3.1]) (s1 := z3.2) rfl ?_
      subst e3
      exact kk
    subst e4
    exact kk
  exact UP.ret (r := some (.int w5.1)) rfl ⟨by subst e5; rfl, by subst e5; rfl⟩
def W_strokeOf : List (Nat × Nat × Option Nat) := [(126, 129, none), (133, 144, none), (147, 147, none), (123, 123, some 2), (123, 123, some 5), (123, 123, some 7), (123, 123, some 17), (123, 123, some 19), (123, 123, some 20), (123, 123, some 21), (123, 123, some 22), (123, 123, some 23), (123, 123, some 24), (123, 123, some 25), (123, 123, some 26), (123, 123, some 27)]
def B_strokeOf_8 (minute : Int32) (i2 : Nat) (a2 : SG × Int32 × Int32) : SG × Int32 × Int32 := let z3 := F_runs (uset a2.1 133 minute.toNatClampNeg (Int32.ofNat i2)) ; let v4 := bif m_cmp .le (z3 123 19) a2.2.2 then a2.2.1 else Int32.ofNat i2; let v5 := bif m_cmp .le (z3 123 19) a2.2.2 then a2.2.2 else z3 123 19; (z3, v4, v5)
theorem fr_B_strokeOf_8 (minute : Int32) (i2 : Nat) (a2 : SG × Int32 × Int32)  (hi2 : i2 < 4) : Fr W_strokeOf a2.1 ((B_strokeOf_8 minute) i2 a2).1 := (Fr.tr (Fr.uset (by rfl) (Fr.rf _ _)) (Fr.wk (W2 := W_strokeOf) (fr_runs _) (by rfl)))
def F_strokeOf (s : SG) (minute : Int32) (what : Int32) : Int32 × SG := let z1 := F_asTold s ; let z2 := itr (B_strokeOf_8 minute) 0 4 (z1, (-1), (-1)); let v6 := bif m_cmp .ne what 0 then z2.2.2 else z2.2.1; (v6, z2.1)
theorem fr_strokeOf (s : SG) (minute : Int32) (what : Int32)  : Fr W_strokeOf s (F_strokeOf s minute what).2 := (frItrB (W := W_strokeOf) (m := (fun x : SG × Int32 × Int32 => x.1)) 4 (fun i a h => Fr.wk (W2 := W_strokeOf) (fr_B_strokeOf_8 _ i a  h) (by rfl)) _ _ _ (by omega) (Fr.tr (Fr.rf _ _) (Fr.wk (W2 := W_strokeOf) (fr_asTold _) (by rfl))))
theorem ux_strokeOf (s : SG) (minute : Int32) (what : Int32)  : UP m_X7_strokeOf 0 (m_ent 6 [.ref 123, .int minute, .int what]) [] s (Qb (F_strokeOf s minute what)) := by
  refine UP.stp 1 (i1 := 1) (L1 := [some (.ref 123), some (.int minute), some (.int what), none, none, none]) (st1 := [.ref 123]) (s1 := s) rfl ?_
  refine UP.cV (M1 := m_X7_asTold) (as := [.ref 123]) (rest := []) (T := F_asTold s ) rfl rfl (ux_asTold s ) (fun z1 e1 => ?_)
  refine UP.stp 6 (i1 := 8) (L1 := [some (.ref 123), some (.int minute), some (.int what), some (.int (-1)), some (.int (-1)), some (.int 0)]) (st1 := []) (s1 := z1) rfl ?_
  refine lp (fun (i2 : Nat) (a2 : SG × Int32 × Int32) => UP m_X7_strokeOf 8 [some (.ref 123), some (.int minute), some (.int what), some (.int a2.2.1), some (.int a2.2.2), some (.int (Int32.ofNat i2))] [] a2.1 (Qb (F_strokeOf s minute what))) (fun (_ : Nat) (a2 : SG × Int32 × Int32) => Fr W_strokeOf z1 a2.1) (B_strokeOf_8 minute) (4) (fun i2 a2 hi2 g2 => g2.tr (fr_B_strokeOf_8 minute i2 a2 hi2)) (fun i2 a2 hi2 g2 kk => ?_) 4 (0) (z1, (-1), (-1)) (by omega) (Fr.rf _ _) (fun z2 e2 g2 => ?_)
  · skip
    refine UP.stp 2 (i1 := 10) (L1 := [some (.ref 123), some (.int minute), some (.int what), some (.int a2.2.1), some (.int a2.2.2), some (.int (Int32.ofNat i2))]) (st1 := [.int 4, .int (Int32.ofNat i2)]) (s1 := a2.1) rfl ?_
    refine UP.icF rfl (ge_F (show i2 < (4 : Int32).toNatClampNeg from hi2)) ?_
    refine UP.stp 6 (i1 := 17) (L1 := [some (.ref 123), some (.int minute), some (.int what), some (.int a2.2.1), some (.int a2.2.2), some (.int (Int32.ofNat i2))]) (st1 := [.ref 123]) (s1 := (uset a2.1 133 minute.toNatClampNeg (Int32.ofNat i2))) rfl ?_
    refine UP.cV (M1 := m_X7_runs) (as := [.ref 123]) (rest := []) (T := F_runs (uset a2.1 133 minute.toNatClampNeg (Int32.ofNat i2)) ) rfl rfl (ux_runs (uset a2.1 133 minute.toNatClampNeg (Int32.ofNat i2)) ) (fun z3 e3 => ?_)
    refine UP.stp 3 (i1 := 21) (L1 := [some (.ref 123), some (.int minute), some (.int what), some (.int a2.2.1), some (.int a2.2.2), some (.int (Int32.ofNat i2))]) (st1 := [.int a2.2.2, .int (z3 123 19)]) (s1 := z3) rfl ?_
    refine mrg (m_cmp .le (z3 123 19) a2.2.2) a2.2.1 (Int32.ofNat i2) (fun v4 : Int32 => UP m_X7_strokeOf 25 [some (.ref 123), some (.int minute), some (.int what), some (.int a2.2.1), some (.int a2.2.2), some (.int (Int32.ofNat i2))] [.int v4] z3 (Qb (F_strokeOf s minute what))) (fun cc kk => ?_) (fun cc kk => ?_) (fun v4 e4 => ?_)
    · skip
      refine UP.icT rfl cc ?_
      refine UP.stp 1 (i1 := 25) (L1 := [some (.ref 123), some (.int minute), some (.int what), some (.int a2.2.1), some (.int a2.2.2), some (.int (Int32.ofNat i2))]) (st1 := [.int a2.2.1]) (s1 := z3) rfl ?_
      exact kk
    · skip
      refine UP.icF rfl cc ?_
      refine UP.stp 2 (i1 := 25) (L1 := [some (.ref 123), some (.int minute), some (.int what), some (.int a2.2.1), some (.int a2.2.2), some (.int (Int32.ofNat i2))]) (st1 := [.int (Int32.ofNat i2)]) (s1 := z3) rfl ?_
      exact kk
    refine UP.stp 4 (i1 := 29) (L1 := [some (.ref 123), some (.int minute), some (.int what), some (.int v4), some (.int a2.2.2), some (.int (Int32.ofNat i2))]) (st1 := [.int a2.2.2, .int (z3 123 19)]) (s1 := z3) rfl ?_
    refine mrg (m_cmp .le (z3 123 19) a2.2.2) a2.2.2 (z3 123 19) (fun v5 : Int32 => UP m_X7_strokeOf 34 [some (.ref 123), some (.int minute), some (.int what), some (.int v4), some (.int a2.2.2), some (.int (Int32.ofNat i2))] [.int v5] z3 (Qb (F_strokeOf s minute what))) (fun cc kk => ?_) (fun cc kk => ?_) (fun v5 e5 => ?_)
    · skip
      refine UP.icT rfl cc ?_
      refine UP.stp 1 (i1 := 34) (L1 := [some (.ref 123), some (.int minute), some (.int what), some (.int v4), some (.int a2.2.2), some (.int (Int32.ofNat i2))]) (st1 := [.int a2.2.2]) (s1 := z3) rfl ?_
      exact kk
    · skip
      refine UP.icF rfl cc ?_
      refine UP.stp 3 (i1 := 34) (L1 := [some (.ref 123), some (.int minute), some (.int what), some (.int v4), some (.int a2.2.2), some (.int (Int32.ofNat i2))]) (st1 := [.int (z3 123 19)]) (s1 := z3) rfl ?_
      exact kk
    refine UP.stp 3 (i1 := 8) (L1 := [some (.ref 123), some (.int minute), some (.int what), some (.int v4), some (.int v5), some (.int ((Int32.ofNat i2) + 1))]) (st1 := []) (s1 := z3) rfl ?_
    subst e5 e4 e3
    rw [ofn_s]
    exact kk
  refine UP.stp 2 (i1 := 10) (L1 := [some (.ref 123), some (.int minute), some (.int what), some (.int z2.2.1), some (.int z2.2.2), some (.int (Int32.ofNat 4))]) (st1 := [.int 4, .int (Int32.ofNat 4)]) (s1 := z2.1) rfl ?_
  refine UP.icT rfl (ge_T (4 : Int32)) ?_
  refine UP.stp 1 (i1 := 38) (L1 := [some (.ref 123), some (.int minute), some (.int what), some (.int z2.2.1), some (.int z2.2.2), some (.int (Int32.ofNat 4))]) (st1 := [.int what]) (s1 := z2.1) rfl ?_
  refine mrg (m_cmp .ne what 0) z2.2.2 z2.2.1 (fun v6 : Int32 => UP m_X7_strokeOf 42 [some (.ref 123), some (.int minute), some (.int what), some (.int z2.2.1), some (.int z2.2.2), some (.int (Int32.ofNat 4))] [.int v6] z2.1 (Qb (F_strokeOf s minute what))) (fun cc kk => ?_) (fun cc kk => ?_) (fun v6 e6 => ?_)
  · skip
    refine UP.ifT rfl cc ?_
    refine UP.stp 1 (i1 := 42) (L1 := [some (.ref 123), some (.int minute), some (.int what), some (.int z2.2.1), some (.int z2.2.2), some (.int (Int32.ofNat 4))]) (st1 := [.int z2.2.2]) (s1 := z2.1) rfl ?_
    exact kk
  · skip
    refine UP.ifF rfl cc ?_
    refine UP.stp 2 (i1 := 42) (L1 := [some (.ref 123), some (.int minute), some (.int what), some (.int z2.2.1), some (.int z2.2.2), some (.int (Int32.ofNat 4))]) (st1 := [.int z2.2.1]) (s1 := z2.1) rfl ?_
    exact kk
  exact UP.ret (r := some (.int v6)) rfl ⟨by subst e6 e2 e1; rfl, by subst e6 e2 e1; rfl⟩
def W_stroke : List (Nat × Nat × Option Nat) := [(126, 129, none), (133, 144, none), (147, 147, none), (123, 123, some 2), (123, 123, some 5), (123, 123, some 7), (123, 123, some 17), (123, 123, some 19), (123, 123, some 20), (123, 123, some 21), (123, 123, some 22), (123, 123, some 23), (123, 123, some 24), (123, 123, some 25), (123, 123, some 26), (123, 123, some 27)]
def F_stroke (s : SG) (minute : Int32) (what : Int32) : Int32 × SG := let w5 := bif m_cmp .eq (F_isMinute s minute) 0 then ((-2 : Int32), s) else ((bif m_cmp .eq (F_isTwo s what) 0 then ((-2 : Int32), s) else ((F_strokeOf s minute what).1, (F_strokeOf s minute what).2)).1, (bif m_cmp .eq (F_isTwo s what) 0 then ((-2 : Int32), s) else ((F_strokeOf s minute what).1, (F_strokeOf s minute what).2)).2); (w5.1, w5.2)
theorem fr_stroke (s : SG) (minute : Int32) (what : Int32)  : Fr W_stroke s (F_stroke s minute what).2 := (Fr.bifp (fun x : Int32 × SG => x.2) (Fr.rf _ _) (Fr.bifp (fun x : Int32 × SG => x.2) (Fr.rf _ _) (Fr.tr (Fr.rf _ _) (Fr.wk (W2 := W_stroke) (fr_strokeOf _ _ _) (by rfl)))))
theorem ux_stroke (s : SG) (minute : Int32) (what : Int32)  : UP m_X7_stroke 0 (m_ent 3 [.ref 123, .int minute, .int what]) [] s (Qb (F_stroke s minute what)) := by
  refine UP.stp 1 (i1 := 1) (L1 := [some (.ref 123), some (.int minute), some (.int what)]) (st1 := [.int minute]) (s1 := s) rfl ?_
  refine UP.cI (M1 := m_X7_isMinute) (as := [.int minute]) (rest := []) (T := F_isMinute s minute) rfl rfl (ux_isMinute s minute) ?_
  refine mrg (m_cmp .eq (F_isMinute s minute) 0) ((-2 : Int32), s) ((bif m_cmp .eq (F_isTwo s what) 0 then ((-2 : Int32), s) else ((F_strokeOf s minute what).1, (F_strokeOf s minute what).2)).1, (bif m_cmp .eq (F_isTwo s what) 0 then ((-2 : Int32), s) else ((F_strokeOf s minute what).1, (F_strokeOf s minute what).2)).2) (fun w5 : Int32 × SG => UP m_X7_stroke 12 [some (.ref 123), some (.int minute), some (.int what)] [.int w5.1] w5.2 (Qb (F_stroke s minute what))) (fun cc kk => ?_) (fun cc kk => ?_) (fun w5 e5 => ?_)
  · skip
    refine UP.ifT rfl cc ?_
    refine UP.stp 1 (i1 := 12) (L1 := [some (.ref 123), some (.int minute), some (.int what)]) (st1 := [.int (-2)]) (s1 := s) rfl ?_
    exact kk
  · skip
    refine UP.ifF rfl cc ?_
    refine UP.stp 1 (i1 := 4) (L1 := [some (.ref 123), some (.int minute), some (.int what)]) (st1 := [.int what]) (s1 := s) rfl ?_
    refine UP.cI (M1 := m_X7_isTwo) (as := [.int what]) (rest := []) (T := F_isTwo s what) rfl rfl (ux_isTwo s what) ?_
    refine mrg (m_cmp .eq (F_isTwo s what) 0) ((-2 : Int32), s) ((F_strokeOf s minute what).1, (F_strokeOf s minute what).2) (fun w4 : Int32 × SG => UP m_X7_stroke 12 [some (.ref 123), some (.int minute), some (.int what)] [.int w4.1] w4.2 (Qb (F_stroke s minute what))) (fun cc kk => ?_) (fun cc kk => ?_) (fun w4 e4 => ?_)
    · skip
      refine UP.ifT rfl cc ?_
      refine UP.stp 1 (i1 := 12) (L1 := [some (.ref 123), some (.int minute), some (.int what)]) (st1 := [.int (-2)]) (s1 := s) rfl ?_
      exact kk
    · skip
      refine UP.ifF rfl cc ?_
      refine UP.stp 3 (i1 := 9) (L1 := [some (.ref 123), some (.int minute), some (.int what)]) (st1 := [.int what, .int minute, .ref 123]) (s1 := s) rfl ?_
      refine UP.cB (M1 := m_X7_strokeOf) (as := [.ref 123, .int minute, .int what]) (rest := []) (T := F_strokeOf s minute what) rfl rfl (ux_strokeOf s minute what) (fun z3 e3 => ?_)
      refine UP.stp 1 (i1 := 12) (L1 := [some (.ref 123), some (.int minute), some (.int what)]) (st1 := [.int z3.1]) (s1 := z3.2) rfl ?_
      subst e3
      exact kk
    subst e4
    exact kk
  exact UP.ret (r := some (.int w5.1)) rfl ⟨by subst e5; rfl, by subst e5; rfl⟩
def W_yearsOf : List (Nat × Nat × Option Nat) := [(126, 129, none), (133, 144, none), (147, 147, none), (123, 123, some 2), (123, 123, some 5), (123, 123, some 7), (123, 123, some 17), (123, 123, some 19), (123, 123, some 20), (123, 123, some 21), (123, 123, some 22), (123, 123, some 23), (123, 123, some 24), (123, 123, some 25), (123, 123, some 26), (123, 123, some 27)]
def B_yearsOf_6 (n : Int32) (i2 : Nat) (a2 : SG × Int32) : SG × Int32 := let v3 := bif m_cmp .ge (Int32.ofNat i2) n then a2.2 else (1103515245 * a2.2) + 12345; let v4 := bif m_cmp .ge (Int32.ofNat i2) n then (2 : Int32) else ((v3.toUInt32 >>> (16.toUInt32 &&& Int32.toUInt32 31)).toInt32) - ((v3.toUInt32 >>> (16.toUInt32 &&& Int32.toUInt32 31)).toInt32) / 4 * 4; ((uset a2.1 133 i2 v4), v3)
theorem fr_B_yearsOf_6 (n : Int32) (i2 : Nat) (a2 : SG × Int32)  (hi2 : i2 < 24) : Fr W_yearsOf a2.1 ((B_yearsOf_6 n) i2 a2).1 := (Fr.uset (by rfl) (Fr.rf _ _))
def F_yearsOf (s : SG) (seed : Int32) (n : Int32) (what : Int32) : Int32 × SG := let z1 := F_asTold s ; let z2 := itr (B_yearsOf_6 n) 0 24 (z1, seed); let z5 := F_runs z2.1 ; let v6 := bif m_cmp .ne what 0 then z5 123 20 else z5 123 19; (v6, z5)
theorem fr_yearsOf (s : SG) (seed : Int32) (n : Int32) (what : Int32)  : Fr W_yearsOf s (F_yearsOf s seed n what).2 := (Fr.tr (frItrB (W := W_yearsOf) (m := (fun x : SG × Int32 => x.1)) 24 (fun i a h => Fr.wk (W2 := W_yearsOf) (fr_B_yearsOf_6 _ i a  h) (by rfl)) _ _ _ (by omega) (Fr.tr (Fr.rf _ _) (Fr.wk (W2 := W_yearsOf) (fr_asTold _) (by rfl)))) (Fr.wk (W2 := W_yearsOf) (fr_runs _) (by rfl)))
theorem ux_yearsOf (s : SG) (seed : Int32) (n : Int32) (what : Int32)  : UP m_X7_yearsOf 0 (m_ent 6 [.ref 123, .int seed, .int n, .int what]) [] s (Qb (F_yearsOf s seed n what)) := by
  refine UP.stp 1 (i1 := 1) (L1 := [some (.ref 123), some (.int seed), some (.int n), some (.int what), none, none]) (st1 := [.ref 123]) (s1 := s) rfl ?_
  refine UP.cV (M1 := m_X7_asTold) (as := [.ref 123]) (rest := []) (T := F_asTold s ) rfl rfl (ux_asTold s ) (fun z1 e1 => ?_)
  refine UP.stp 4 (i1 := 6) (L1 := [some (.ref 123), some (.int seed), some (.int n), some (.int what), some (.int seed), some (.int 0)]) (st1 := []) (s1 := z1) rfl ?_
  refine lp (fun (i2 : Nat) (a2 : SG × Int32) => ∀ (u2_1 : Option Value), UP m_X7_yearsOf 6 [some (.ref 123), u2_1, some (.int n), some (.int what), some (.int a2.2), some (.int (Int32.ofNat i2))] [] a2.1 (Qb (F_yearsOf s seed n what))) (fun (_ : Nat) (a2 : SG × Int32) => Fr W_yearsOf z1 a2.1) (B_yearsOf_6 n) (24) (fun i2 a2 hi2 g2 => g2.tr (fr_B_yearsOf_6 n i2 a2 hi2)) (fun i2 a2 hi2 g2 kk => ?_) 24 (0) (z1, seed) (by omega) (Fr.rf _ _) (fun z2 e2 g2 => ?_) (some (.int seed))
  · skip
    intro u2_1
    refine UP.stp 2 (i1 := 8) (L1 := [some (.ref 123), u2_1, some (.int n), some (.int what), some (.int a2.2), some (.int (Int32.ofNat i2))]) (st1 := [.int 24, .int (Int32.ofNat i2)]) (s1 := a2.1) rfl ?_
    refine UP.icF rfl (ge_F (show i2 < (24 : Int32).toNatClampNeg from hi2)) ?_
    refine UP.stp 2 (i1 := 11) (L1 := [some (.ref 123), u2_1, some (.int n), some (.int what), some (.int a2.2), some (.int (Int32.ofNat i2))]) (st1 := [.int n, .int (Int32.ofNat i2)]) (s1 := a2.1) rfl ?_
    refine mrg (m_cmp .ge (Int32.ofNat i2) n) a2.2 ((1103515245 * a2.2) + 12345) (fun v3 : Int32 => UP m_X7_yearsOf 19 [some (.ref 123), u2_1, some (.int n), some (.int what), some (.int a2.2), some (.int (Int32.ofNat i2))] [.int v3] a2.1 (Qb (F_yearsOf s seed n what))) (fun cc kk => ?_) (fun cc kk => ?_) (fun v3 e3 => ?_)
    · skip
      refine UP.icT rfl cc ?_
      refine UP.stp 1 (i1 := 19) (L1 := [some (.ref 123), u2_1, some (.int n), some (.int what), some (.int a2.2), some (.int (Int32.ofNat i2))]) (st1 := [.int a2.2]) (s1 := a2.1) rfl ?_
      exact kk
    · skip
      refine UP.icF rfl cc ?_
      refine UP.stp 6 (i1 := 19) (L1 := [some (.ref 123), u2_1, some (.int n), some (.int what), some (.int a2.2), some (.int (Int32.ofNat i2))]) (st1 := [.int ((1103515245 * a2.2) + 12345)]) (s1 := a2.1) rfl ?_
      exact kk
    refine UP.stp 6 (i1 := 25) (L1 := [some (.ref 123), u2_1, some (.int n), some (.int what), some (.int v3), some (.int (Int32.ofNat i2))]) (st1 := [.int n, .int (Int32.ofNat i2), .int (Int32.ofNat i2), .ref 133]) (s1 := a2.1) rfl ?_
    refine mrg (m_cmp .ge (Int32.ofNat i2) n) (2 : Int32) (((v3.toUInt32 >>> (16.toUInt32 &&& Int32.toUInt32 31)).toInt32) - ((v3.toUInt32 >>> (16.toUInt32 &&& Int32.toUInt32 31)).toInt32) / 4 * 4) (fun v4 : Int32 => UP m_X7_yearsOf 33 [some (.ref 123), u2_1, some (.int n), some (.int what), some (.int v3), some (.int (Int32.ofNat i2))] [.int v4, .int (Int32.ofNat i2), .ref 133] a2.1 (Qb (F_yearsOf s seed n what))) (fun cc kk => ?_) (fun cc kk => ?_) (fun v4 e4 => ?_)
    · skip
      refine UP.icT rfl cc ?_
      refine UP.stp 1 (i1 := 33) (L1 := [some (.ref 123), u2_1, some (.int n), some (.int what), some (.int v3), some (.int (Int32.ofNat i2))]) (st1 := [.int 2, .int (Int32.ofNat i2), .ref 133]) (s1 := a2.1) rfl ?_
      exact kk
    · skip
      refine UP.icF rfl cc ?_
      refine UP.stp 6 (i1 := 33) (L1 := [some (.ref 123), u2_1, some (.int n), some (.int what), some (.int v3), some (.int (Int32.ofNat i2))]) (st1 := [.int (((v3.toUInt32 >>> (16.toUInt32 &&& Int32.toUInt32 31)).toInt32) - ((v3.toUInt32 >>> (16.toUInt32 &&& Int32.toUInt32 31)).toInt32) / 4 * 4), .int (Int32.ofNat i2), .ref 133]) (s1 := a2.1) rfl ?_
      exact kk
    refine UP.ast (e := i2) rfl rfl (by omega) ?_
    show UP m_X7_yearsOf 34 [some (.ref 123), u2_1, some (.int n), some (.int what), some (.int v3), some (.int (Int32.ofNat i2))] [] (uset a2.1 133 i2 v4) (Qb (F_yearsOf s seed n what))
    refine UP.stp 2 (i1 := 6) (L1 := [some (.ref 123), u2_1, some (.int n), some (.int what), some (.int v3), some (.int ((Int32.ofNat i2) + 1))]) (st1 := []) (s1 := (uset a2.1 133 i2 v4)) rfl ?_
    subst e4 e3
    rw [ofn_s]
    exact kk _
  intro u2_1
  refine UP.stp 2 (i1 := 8) (L1 := [some (.ref 123), u2_1, some (.int n), some (.int what), some (.int z2.2), some (.int (Int32.ofNat 24))]) (st1 := [.int 24, .int (Int32.ofNat 24)]) (s1 := z2.1) rfl ?_
  refine UP.icT rfl (ge_T (24 : Int32)) ?_
  refine UP.stp 1 (i1 := 37) (L1 := [some (.ref 123), u2_1, some (.int n), some (.int what), some (.int z2.2), some (.int (Int32.ofNat 24))]) (st1 := [.ref 123]) (s1 := z2.1) rfl ?_
  refine UP.cV (M1 := m_X7_runs) (as := [.ref 123]) (rest := []) (T := F_runs z2.1 ) rfl rfl (ux_runs z2.1 ) (fun z5 e5 => ?_)
  refine UP.stp 1 (i1 := 39) (L1 := [some (.ref 123), u2_1, some (.int n), some (.int what), some (.int z2.2), some (.int (Int32.ofNat 24))]) (st1 := [.int what]) (s1 := z5) rfl ?_
  refine mrg (m_cmp .ne what 0) (z5 123 20) (z5 123 19) (fun v6 : Int32 => UP m_X7_yearsOf 45 [some (.ref 123), u2_1, some (.int n), some (.int what), some (.int z2.2), some (.int (Int32.ofNat 24))] [.int v6] z5 (Qb (F_yearsOf s seed n what))) (fun cc kk => ?_) (fun cc kk => ?_) (fun v6 e6 => ?_)
  · skip
    refine UP.ifT rfl cc ?_
    refine UP.stp 2 (i1 := 45) (L1 := [some (.ref 123), u2_1, some (.int n), some (.int what), some (.int z2.2), some (.int (Int32.ofNat 24))]) (st1 := [.int (z5 123 20)]) (s1 := z5) rfl ?_
    exact kk
  · skip
    refine UP.ifF rfl cc ?_
    refine UP.stp 3 (i1 := 45) (L1 := [some (.ref 123), u2_1, some (.int n), some (.int what), some (.int z2.2), some (.int (Int32.ofNat 24))]) (st1 := [.int (z5 123 19)]) (s1 := z5) rfl ?_
    exact kk
  exact UP.ret (r := some (.int v6)) rfl ⟨by subst e6 e5 e2 e1; rfl, by subst e6 e5 e2 e1; rfl⟩
def W_years : List (Nat × Nat × Option Nat) := [(126, 129, none), (133, 144, none), (147, 147, none), (123, 123, some 2), (123, 123, some 5), (123, 123, some 7), (123, 123, some 17), (123, 123, some 19), (123, 123, some 20), (123, 123, some 21), (123, 123, some 22), (123, 123, some 23), (123, 123, some 24), (123, 123, some 25), (123, 123, some 26), (123, 123, some 27)]
def F_years (s : SG) (seed : Int32) (n : Int32) (what : Int32) : Int32 × SG := let w5 := bif m_cmp .eq (F_in s n 0 24) 0 then ((-2 : Int32), s) else ((bif m_cmp .eq (F_isTwo s what) 0 then ((-2 : Int32), s) else ((F_yearsOf s seed n what).1, (F_yearsOf s seed n what).2)).1, (bif m_cmp .eq (F_isTwo s what) 0 then ((-2 : Int32), s) else ((F_yearsOf s seed n what).1, (F_yearsOf s seed n what).2)).2); (w5.1, w5.2)
theorem fr_years (s : SG) (seed : Int32) (n : Int32) (what : Int32)  : Fr W_years s (F_years s seed n what).2 := (Fr.bifp (fun x : Int32 × SG => x.2) (Fr.rf _ _) (Fr.bifp (fun x : Int32 × SG => x.2) (Fr.rf _ _) (Fr.tr (Fr.rf _ _) (Fr.wk (W2 := W_years) (fr_yearsOf _ _ _ _) (by rfl)))))
theorem ux_years (s : SG) (seed : Int32) (n : Int32) (what : Int32)  : UP m_X7_years 0 (m_ent 4 [.ref 123, .int seed, .int n, .int what]) [] s (Qb (F_years s seed n what)) := by
  refine UP.stp 3 (i1 := 3) (L1 := [some (.ref 123), some (.int seed), some (.int n), some (.int what)]) (st1 := [.int 24, .int 0, .int n]) (s1 := s) rfl ?_
  refine UP.cI (M1 := m_X7_in) (as := [.int n, .int 0, .int 24]) (rest := []) (T := F_in s n 0 24) rfl rfl (ux_in s n 0 24) ?_
  refine mrg (m_cmp .eq (F_in s n 0 24) 0) ((-2 : Int32), s) ((bif m_cmp .eq (F_isTwo s what) 0 then ((-2 : Int32), s) else ((F_yearsOf s seed n what).1, (F_yearsOf s seed n what).2)).1, (bif m_cmp .eq (F_isTwo s what) 0 then ((-2 : Int32), s) else ((F_yearsOf s seed n what).1, (F_yearsOf s seed n what).2)).2) (fun w5 : Int32 × SG => UP m_X7_years 15 [some (.ref 123), some (.int seed), some (.int n), some (.int what)] [.int w5.1] w5.2 (Qb (F_years s seed n what))) (fun cc kk => ?_) (fun cc kk => ?_) (fun w5 e5 => ?_)
  · skip
    refine UP.ifT rfl cc ?_
    refine UP.stp 1 (i1 := 15) (L1 := [some (.ref 123), some (.int seed), some (.int n), some (.int what)]) (st1 := [.int (-2)]) (s1 := s) rfl ?_
    exact kk
  · skip
    refine UP.ifF rfl cc ?_
    refine UP.stp 1 (i1 := 6) (L1 := [some (.ref 123), some (.int seed), some (.int n), some (.int what)]) (st1 := [.int what]) (s1 := s) rfl ?_
    refine UP.cI (M1 := m_X7_isTwo) (as := [.int what]) (rest := []) (T := F_isTwo s what) rfl rfl (ux_isTwo s what) ?_
    refine mrg (m_cmp .eq (F_isTwo s what) 0) ((-2 : Int32), s) ((F_yearsOf s seed n what).1, (F_yearsOf s seed n what).2) (fun w4 : Int32 × SG => UP m_X7_years 15 [some (.ref 123), some (.int seed), some (.int n), some (.int what)] [.int w4.1] w4.2 (Qb (F_years s seed n what))) (fun cc kk => ?_) (fun cc kk => ?_) (fun w4 e4 => ?_)
    · skip
      refine UP.ifT rfl cc ?_
      refine UP.stp 1 (i1 := 15) (L1 := [some (.ref 123), some (.int seed), some (.int n), some (.int what)]) (st1 := [.int (-2)]) (s1 := s) rfl ?_
      exact kk
    · skip
      refine UP.ifF rfl cc ?_
      refine UP.stp 4 (i1 := 12) (L1 := [some (.ref 123), some (.int seed), some (.int n), some (.int what)]) (st1 := [.int what, .int n, .int seed, .ref 123]) (s1 := s) rfl ?_
      refine UP.cB (M1 := m_X7_yearsOf) (as := [.ref 123, .int seed, .int n, .int what]) (rest := []) (T := F_yearsOf s seed n what) rfl rfl (ux_yearsOf s seed n what) (fun z3 e3 => ?_)
      refine UP.stp 1 (i1 := 15) (L1 := [some (.ref 123), some (.int seed), some (.int n), some (.int what)]) (st1 := [.int z3.1]) (s1 := z3.2) rfl ?_
      subst e3
      exact kk
    subst e4
    exact kk
  exact UP.ret (r := some (.int w5.1)) rfl ⟨by subst e5; rfl, by subst e5; rfl⟩
def W_swapOf : List (Nat × Nat × Option Nat) := [(126, 129, none), (133, 144, none), (147, 147, none), (123, 123, some 2), (123, 123, some 5), (123, 123, some 7), (123, 123, some 17), (123, 123, some 19), (123, 123, some 20), (123, 123, some 21), (123, 123, some 22), (123, 123, some 23), (123, 123, some 24), (123, 123, some 25), (123, 123, some 26), (123, 123, some 27)]
def B_swapOf_16  (i3 : Nat) (a3 : SG × Int32 × Int32) : SG × Int32 × Int32 := let z4 := F_runs (uset (uset a3.1 135 i2 (Int32.ofNat i3)) 135 i3 (Int32.ofNat i2)) ; let v5 := bif m_cmp .le (z4 123 19) a3.2.2 then a3.2.1 else (8 * (Int32.ofNat i2)) + (Int32.ofNat i3); let v6 := bif m_cmp .le (z4 123 19) a3.2.2 then a3.2.2 else z4 123 19; ((uset (uset z4 135 i2 (Int32.ofNat i2)) 135 i3 (Int32.ofNat i3)), v5, v6)
theorem fr_B_swapOf_16  (i3 : Nat) (a3 : SG × Int32 × Int32)   : Fr W_swapOf a3.1 ((B_swapOf_16) i3 a3).1 := (Fr.uset (by rfl) (Fr.uset (by rfl) (Fr.tr (Fr.uset (by rfl) (Fr.uset (by rfl) (Fr.rf _ _))) (Fr.wk (W2 := W_swapOf) (fr_runs _) (by rfl)))))
def B_swapOf_8  (i2 : Nat) (a2 : SG × Int32 × Int32) : SG × Int32 × Int32 := let z3 := itr (B_swapOf_16) (i2 + 1) ((a2.1 123 2).toNatClampNeg - (i2 + 1)) (a2.1, a2.2.1, a2.2.2); (z3.1, z3.2.1, z3.2.2)
theorem fr_B_swapOf_8  (i2 : Nat) (a2 : SG × Int32 × Int32)   : Fr W_swapOf a2.1 ((B_swapOf_8) i2 a2).1 := (Fr.itr (W := W_swapOf) (m := (fun x : SG × Int32 × Int32 => x.1)) (fun i a => Fr.wk (W2 := W_swapOf) (fr_B_swapOf_16  i a ) (by rfl)) _ _ _ (Fr.rf _ _))
def F_swapOf (s : SG) (what : Int32) : Int32 × SG := let z1 := F_asTold s ; let z2 := itr (B_swapOf_8) 0 ((z1 123 2).toNatClampNeg) (z1, (-1), (-1)); let v9 := bif m_cmp .ne z2.2.1 (-1) then (bif m_cmp .ne what 0 then (bif m_cmp .ne what 1 then z2.2.2 else z2.2.1 - z2.2.1 / 8 * 8) else z2.2.1 / 8) else (-1 : Int32); (v9, z2.1)
theorem fr_swapOf (s : SG) (what : Int32)  : Fr W_swapOf s (F_swapOf s what).2 := (Fr.itr (W := W_swapOf) (m := (fun x : SG × Int32 × Int32 => x.1)) (fun i a => Fr.wk (W2 := W_swapOf) (fr_B_swapOf_8  i a ) (by rfl)) _ _ _ (Fr.tr (Fr.rf _ _) (Fr.wk (W2 := W_swapOf) (fr_asTold _) (by rfl))))
theorem ux_swapOf (s : SG) (what : Int32)  : UP m_X7_swapOf 0 (m_ent 6 [.ref 123, .int what]) [] s (Qb (F_swapOf s what)) := by
  refine UP.stp 1 (i1 := 1) (L1 := [some (.ref 123), some (.int what), none, none, none, none]) (st1 := [.ref 123]) (s1 := s) rfl ?_
  refine UP.cV (M1 := m_X7_asTold) (as := [.ref 123]) (rest := []) (T := F_asTold s ) rfl rfl (ux_asTold s ) (fun z1 e1 => ?_)
  refine UP.stp 6 (i1 := 8) (L1 := [some (.ref 123), some (.int what), some (.int (-1)), some (.int (-1)), some (.int 0), none]) (st1 := []) (s1 := z1) rfl ?_
  refine lp (fun (i2 : Nat) (a2 : SG × Int32 × Int32) => ∀ (u2_5 : Option Value), UP m_X7_swapOf 8 [some (.ref 123), some (.int what), some (.int a2.2.1), some (.int a2.2.2), some (.int (Int32.ofNat i2)), u2_5] [] a2.1 (Qb (F_swapOf s what))) (fun (_ : Nat) (a2 : SG × Int32 × Int32) => Fr W_swapOf z1 a2.1) (B_swapOf_8) ((z1 123 2).toNatClampNeg) (fun i2 a2 hi2 g2 => g2.tr (fr_B_swapOf_8  i2 a2 )) (fun i2 a2 hi2 g2 kk => ?_) ((z1 123 2).toNatClampNeg) (0) (z1, (-1), (-1)) (by omega) (Fr.rf _ _) (fun z2 e2 g2 => ?_) none
  · skip
    intro u2_5
    have hbi2 := cl_lt (z1 123 2)
    refine UP.stp 3 (i1 := 11) (L1 := [some (.ref 123), some (.int what), some (.int a2.2.1), some (.int a2.2.2), some (.int (Int32.ofNat i2)), u2_5]) (st1 := [.int (a2.1 123 2), .int (Int32.ofNat i2)]) (s1 := a2.1) rfl ?_
    refine UP.icF rfl (by rw [(g2 123 2 rfl)]; exact ge_F hi2) ?_
    refine UP.stp 4 (i1 := 16) (L1 := [some (.ref 123), some (.int what), some (.int a2.2.1), some (.int a2.2.2), some (.int (Int32.ofNat i2)), some (.int ((Int32.ofNat i2) + 1))]) (st1 := []) (s1 := a2.1) rfl ?_
    rw [show (Int32.ofNat i2) + 1 = Int32.ofNat (i2 + 1) from (ofn_add rfl rfl)]
    refine lp (fun (i3 : Nat) (a3 : SG × Int32 × Int32) => UP m_X7_swapOf 16 [some (.ref 123), some (.int what), some (.int a3.2.1), some (.int a3.2.2), some (.int (Int32.ofNat i2)), some (.int (Int32.ofNat i3))] [] a3.1 (Qb (F_swapOf s what))) (fun (_ : Nat) (a3 : SG × Int32 × Int32) => Fr W_swapOf a2.1 a3.1) (B_swapOf_16) ((a2.1 123 2).toNatClampNeg) (fun i3 a3 hi3 g3 => g3.tr (fr_B_swapOf_16  i3 a3 )) (fun i3 a3 hi3 g3 kk => ?_) ((a2.1 123 2).toNatClampNeg - (i2 + 1)) (i2 + 1) (a2.1, a2.2.1, a2.2.2) (by omega) (Fr.rf _ _) (fun z3 e3 g3 => ?_)
    · skip
      have hbi3 := cl_lt (a2.1 123 2)
      refine UP.stp 3 (i1 := 19) (L1 := [some (.ref 123), some (.int what), some (.int a3.2.1), some (.int a3.2.2), some (.int (Int32.ofNat i2)), some (.int (Int32.ofNat i3))]) (st1 := [.int (a3.1 123 2), .int (Int32.ofNat i3)]) (s1 := a3.1) rfl ?_
      refine UP.icF rfl (by rw [(g3 123 2 rfl)]; exact ge_F hi3) ?_
      refine UP.stp 4 (i1 := 24) (L1 := [some (.ref 123), some (.int what), some (.int a3.2.1), some (.int a3.2.2), some (.int (Int32.ofNat i2)), some (.int (Int32.ofNat i3))]) (st1 := [.int (Int32.ofNat i3), .int (Int32.ofNat i2), .ref 135]) (s1 := a3.1) rfl ?_
      refine UP.ast (e := i2) rfl rfl (by omega) ?_
      show UP m_X7_swapOf 25 [some (.ref 123), some (.int what), some (.int a3.2.1), some (.int a3.2.2), some (.int (Int32.ofNat i2)), some (.int (Int32.ofNat i3))] [] (uset a3.1 135 i2 (Int32.ofNat i3)) (Qb (F_swapOf s what))
      refine UP.stp 4 (i1 := 29) (L1 := [some (.ref 123), some (.int what), some (.int a3.2.1), some (.int a3.2.2), some (.int (Int32.ofNat i2)), some (.int (Int32.ofNat i3))]) (st1 := [.int (Int32.ofNat i2), .int (Int32.ofNat i3), .ref 135]) (s1 := (uset a3.1 135 i2 (Int32.ofNat i3))) rfl ?_
      refine UP.ast (e := i3) rfl rfl (by omega) ?_
      show UP m_X7_swapOf 30 [some (.ref 123), some (.int what), some (.int a3.2.1), some (.int a3.2.2), some (.int (Int32.ofNat i2)), some (.int (Int32.ofNat i3))] [] (uset (uset a3.1 135 i2 (Int32.ofNat i3)) 135 i3 (Int32.ofNat i2)) (Qb (F_swapOf s what))
      refine UP.stp 1 (i1 := 31) (L1 := [some (.ref 123), some (.int what), some (.int a3.2.1), some (.int a3.2.2), some (.int (Int32.ofNat i2)), some (.int (Int32.ofNat i3))]) (st1 := [.ref 123]) (s1 := (uset (uset a3.1 135 i2 (Int32.ofNat i3)) 135 i3 (Int32.ofNat i2))) rfl ?_
      refine UP.cV (M1 := m_X7_runs) (as := [.ref 123]) (rest := []) (T := F_runs (uset (uset a3.1 135 i2 (Int32.ofNat i3)) 135 i3 (Int32.ofNat i2)) ) rfl rfl (ux_runs (uset (uset a3.1 135 i2 (Int32.ofNat i3)) 135 i3 (Int32.ofNat i2)) ) (fun z4 e4 => ?_)
      refine UP.stp 4 (i1 := 36) (L1 := [some (.ref 123), some (.int what), some (.int a3.2.1), some (.int a3.2.2), some (.int (Int32.ofNat i2)), some (.int (Int32.ofNat i3))]) (st1 := [.int (Int32.ofNat i2), .int (Int32.ofNat i2), .ref 135]) (s1 := z4) rfl ?_
      refine UP.ast (e := i2) rfl rfl (by omega) ?_
      show UP m_X7_swapOf 37 [some (.ref 123), some (.int what), some (.int a3.2.1), some (.int a3.2.2), some (.int (Int32.ofNat i2)), some (.int (Int32.ofNat i3))] [] (uset z4 135 i2 (Int32.ofNat i2)) (Qb (F_swapOf s what))
      refine UP.stp 4 (i1 := 41) (L1 := [some (.ref 123), some (.int what), some (.int a3.2.1), some (.int a3.2.2), some (.int (Int32.ofNat i2)), some (.int (Int32.ofNat i3))]) (st1 := [.int (Int32.ofNat i3), .int (Int32.ofNat i3), .ref 135]) (s1 := (uset z4 135 i2 (Int32.ofNat i2))) rfl ?_
      refine UP.ast (e := i3) rfl rfl (by omega) ?_
      show UP m_X7_swapOf 42 [some (.ref 123), some (.int what), some (.int a3.2.1), some (.int a3.2.2), some (.int (Int32.ofNat i2)), some (.int (Int32.ofNat i3))] [] (uset (uset z4 135 i2 (Int32.ofNat i2)) 135 i3 (Int32.ofNat i3)) (Qb (F_swapOf s what))
      refine UP.stp 3 (i1 := 45) (L1 := [some (.ref 123), some (.int what), some (.int a3.2.1), some (.int a3.2.2), some (.int (Int32.ofNat i2)), some (.int (Int32.ofNat i3))]) (st1 := [.int a3.2.2, .int (z4 123 19)]) (s1 := (uset (uset z4 135 i2 (Int32.ofNat i2)) 135 i3 (Int32.ofNat i3))) rfl ?_
      refine mrg (m_cmp .le (z4 123 19) a3.2.2) a3.2.1 ((8 * (Int32.ofNat i2)) + (Int32.ofNat i3)) (fun v5 : Int32 => UP m_X7_swapOf 53 [some (.ref 123), some (.int what), some (.int a3.2.1), some (.int a3.2.2), some (.int (Int32.ofNat i2)), some (.int (Int32.ofNat i3))] [.int v5] (uset (uset z4 135 i2 (Int32.ofNat i2)) 135 i3 (Int32.ofNat i3)) (Qb (F_swapOf s what))) (fun cc kk => ?_) (fun cc kk => ?_) (fun v5 e5 => ?_)
      · skip
        refine UP.icT rfl cc ?_
        refine UP.stp 1 (i1 := 53) (L1 := [some (.ref 123), some (.int what), some (.int a3.2.1), some (.int a3.2.2), some (.int (Int32.ofNat i2)), some (.int (Int32.ofNat i3))]) (st1 := [.int a3.2.1]) (s1 := (uset (uset z4 135 i2 (Int32.ofNat i2)) 135 i3 (Int32.ofNat i3))) rfl ?_
        exact kk
      · skip
        refine UP.icF rfl cc ?_
        refine UP.stp 6 (i1 := 53) (L1 := [some (.ref 123), some (.int what), some (.int a3.2.1), some (.int a3.2.2), some (.int (Int32.ofNat i2)), some (.int (Int32.ofNat i3))]) (st1 := [.int ((8 * (Int32.ofNat i2)) + (Int32.ofNat i3))]) (s1 := (uset (uset z4 135 i2 (Int32.ofNat i2)) 135 i3 (Int32.ofNat i3))) rfl ?_
        exact kk
      refine UP.stp 4 (i1 := 57) (L1 := [some (.ref 123), some (.int what), some (.int v5), some (.int a3.2.2), some (.int (Int32.ofNat i2)), some (.int (Int32.ofNat i3))]) (st1 := [.int a3.2.2, .int (z4 123 19)]) (s1 := (uset (uset z4 135 i2 (Int32.ofNat i2)) 135 i3 (Int32.ofNat i3))) rfl ?_
      refine mrg (m_cmp .le (z4 123 19) a3.2.2) a3.2.2 (z4 123 19) (fun v6 : Int32 => UP m_X7_swapOf 62 [some (.ref 123), some (.int what), some (.int v5), some (.int a3.2.2), some (.int (Int32.ofNat i2)), some (.int (Int32.ofNat i3))] [.int v6] (uset (uset z4 135 i2 (Int32.ofNat i2)) 135 i3 (Int32.ofNat i3)) (Qb (F_swapOf s what))) (fun cc kk => ?_) (fun cc kk => ?_) (fun v6 e6 => ?_)
      · skip
        refine UP.icT rfl cc ?_
        refine UP.stp 1 (i1 := 62) (L1 := [some (.ref 123), some (.int what), some (.int v5), some (.int a3.2.2), some (.int (Int32.ofNat i2)), some (.int (Int32.ofNat i3))]) (st1 := [.int a3.2.2]) (s1 := (uset (uset z4 135 i2 (Int32.ofNat i2)) 135 i3 (Int32.ofNat i3))) rfl ?_
        exact kk
      · skip
        refine UP.icF rfl cc ?_
        refine UP.stp 3 (i1 := 62) (L1 := [some (.ref 123), some (.int what), some (.int v5), some (.int a3.2.2), some (.int (Int32.ofNat i2)), some (.int (Int32.ofNat i3))]) (st1 := [.int (z4 123 19)]) (s1 := (uset (uset z4 135 i2 (Int32.ofNat i2)) 135 i3 (Int32.ofNat i3))) rfl ?_
        exact kk
      refine UP.stp 3 (i1 := 16) (L1 := [some (.ref 123), some (.int what), some (.int v5), some (.int v6), some (.int (Int32.ofNat i2)), some (.int ((Int32.ofNat i3) + 1))]) (st1 := []) (s1 := (uset (uset z4 135 i2 (Int32.ofNat i2)) 135 i3 (Int32.ofNat i3))) rfl ?_
      subst e6 e5 e4
      rw [ofn_s]
      exact kk
    refine UP.stp 3 (i1 := 19) (L1 := [some (.ref 123), some (.int what), some (.int z3.2.1), some (.int z3.2.2), some (.int (Int32.ofNat i2)), some (.int (Int32.ofNat ((a2.1 123 2).toNatClampNeg)))]) (st1 := [.int (z3.1 123 2), .int (Int32.ofNat ((a2.1 123 2).toNatClampNeg))]) (s1 := z3.1) rfl ?_
    refine UP.icT rfl (by rw [(g3 123 2 rfl)]; exact ge_T _) ?_
    refine UP.stp 2 (i1 := 8) (L1 := [some (.ref 123), some (.int what), some (.int z3.2.1), some (.int z3.2.2), some (.int ((Int32.ofNat i2) + 1)), some (.int (Int32.ofNat ((a2.1 123 2).toNatClampNeg)))]) (st1 := []) (s1 := z3.1) rfl ?_
    subst e3
    rw [ofn_s]
    exact kk _
  intro u2_5
  refine UP.stp 3 (i1 := 11) (L1 := [some (.ref 123), some (.int what), some (.int z2.2.1), some (.int z2.2.2), some (.int (Int32.ofNat ((z1 123 2).toNatClampNeg))), u2_5]) (st1 := [.int (z2.1 123 2), .int (Int32.ofNat ((z1 123 2).toNatClampNeg))]) (s1 := z2.1) rfl ?_
  refine UP.icT rfl (by rw [(g2 123 2 rfl)]; exact ge_T _) ?_
  refine UP.stp 2 (i1 := 69) (L1 := [some (.ref 123), some (.int what), some (.int z2.2.1), some (.int z2.2.2), some (.int (Int32.ofNat ((z1 123 2).toNatClampNeg))), u2_5]) (st1 := [.int (-1), .int z2.2.1]) (s1 := z2.1) rfl ?_
  refine mrg (m_cmp .ne z2.2.1 (-1)) (bif m_cmp .ne what 0 then (bif m_cmp .ne what 1 then z2.2.2 else z2.2.1 - z2.2.1 / 8 * 8) else z2.2.1 / 8) (-1 : Int32) (fun v9 : Int32 => UP m_X7_swapOf 86 [some (.ref 123), some (.int what), some (.int z2.2.1), some (.int z2.2.2), some (.int (Int32.ofNat ((z1 123 2).toNatClampNeg))), u2_5] [.int v9] z2.1 (Qb (F_swapOf s what))) (fun cc kk => ?_) (fun cc kk => ?_) (fun v9 e9 => ?_)
  · skip
    refine UP.icT rfl cc ?_
    refine UP.stp 1 (i1 := 73) (L1 := [some (.ref 123), some (.int what), some (.int z2.2.1), some (.int z2.2.2), some (.int (Int32.ofNat ((z1 123 2).toNatClampNeg))), u2_5]) (st1 := [.int what]) (s1 := z2.1) rfl ?_
    refine mrg (m_cmp .ne what 0) (bif m_cmp .ne what 1 then z2.2.2 else z2.2.1 - z2.2.1 / 8 * 8) (z2.2.1 / 8) (fun v8 : Int32 => UP m_X7_swapOf 86 [some (.ref 123), some (.int what), some (.int z2.2.1), some (.int z2.2.2), some (.int (Int32.ofNat ((z1 123 2).toNatClampNeg))), u2_5] [.int v8] z2.1 (Qb (F_swapOf s what))) (fun cc kk => ?_) (fun cc kk => ?_) (fun v8 e8 => ?_)
    · skip
      refine UP.ifT rfl cc ?_
      refine UP.stp 2 (i1 := 80) (L1 := [some (.ref 123), some (.int what), some (.int z2.2.1), some (.int z2.2.2), some (.int (Int32.ofNat ((z1 123 2).toNatClampNeg))), u2_5]) (st1 := [.int 1, .int what]) (s1 := z2.1) rfl ?_
      refine mrg (m_cmp .ne what 1) z2.2.2 (z2.2.1 - z2.2.1 / 8 * 8) (fun v7 : Int32 => UP m_X7_swapOf 86 [some (.ref 123), some (.int what), some (.int z2.2.1), some (.int z2.2.2), some (.int (Int32.ofNat ((z1 123 2).toNatClampNeg))), u2_5] [.int v7] z2.1 (Qb (F_swapOf s what))) (fun cc kk => ?_) (fun cc kk => ?_) (fun v7 e7 => ?_)
      · skip
        refine UP.icT rfl cc ?_
        refine UP.stp 1 (i1 := 86) (L1 := [some (.ref 123), some (.int what), some (.int z2.2.1), some (.int z2.2.2), some (.int (Int32.ofNat ((z1 123 2).toNatClampNeg))), u2_5]) (st1 := [.int z2.2.2]) (s1 := z2.1) rfl ?_
        exact kk
      · skip
        refine UP.icF rfl cc ?_
        refine UP.stp 4 (i1 := 86) (L1 := [some (.ref 123), some (.int what), some (.int z2.2.1), some (.int z2.2.2), some (.int (Int32.ofNat ((z1 123 2).toNatClampNeg))), u2_5]) (st1 := [.int (z2.2.1 - z2.2.1 / 8 * 8)]) (s1 := z2.1) rfl ?_
        exact kk
      subst e7
      exact kk
    · skip
      refine UP.ifF rfl cc ?_
      refine UP.stp 4 (i1 := 86) (L1 := [some (.ref 123), some (.int what), some (.int z2.2.1), some (.int z2.2.2), some (.int (Int32.ofNat ((z1 123 2).toNatClampNeg))), u2_5]) (st1 := [.int (z2.2.1 / 8)]) (s1 := z2.1) rfl ?_
      exact kk
    subst e8
    exact kk
  · skip
    refine UP.icF rfl cc ?_
    refine UP.stp 2 (i1 := 86) (L1 := [some (.ref 123), some (.int what), some (.int z2.2.1), some (.int z2.2.2), some (.int (Int32.ofNat ((z1 123 2).toNatClampNeg))), u2_5]) (st1 := [.int (-1)]) (s1 := z2.1) rfl ?_
    exact kk
  exact UP.ret (r := some (.int v9)) rfl ⟨by subst e9 e2 e1; rfl, by subst e9 e2 e1; rfl⟩
def W_swap : List (Nat × Nat × Option Nat) := [(126, 129, none), (133, 144, none), (147, 147, none), (123, 123, some 2), (123, 123, some 5), (123, 123, some 7), (123, 123, some 17), (123, 123, some 19), (123, 123, some 20), (123, 123, some 21), (123, 123, some 22), (123, 123, some 23), (123, 123, some 24), (123, 123, some 25), (123, 123, some 26), (123, 123, some 27)]
def F_swap (s : SG) (what : Int32) : Int32 × SG := let w3 := bif m_cmp .eq (F_isThree s what) 0 then ((-2 : Int32), s) else ((F_swapOf s what).1, (F_swapOf s what).2); (w3.1, w3.2)
theorem fr_swap (s : SG) (what : Int32)  : Fr W_swap s (F_swap s what).2 := (Fr.bifp (fun x : Int32 × SG => x.2) (Fr.rf _ _) (Fr.tr (Fr.rf _ _) (Fr.wk (W2 := W_swap) (fr_swapOf _ _) (by rfl))))
theorem ux_swap (s : SG) (what : Int32)  : UP m_X7_swap 0 (m_ent 2 [.ref 123, .int what]) [] s (Qb (F_swap s what)) := by
  refine UP.stp 1 (i1 := 1) (L1 := [some (.ref 123), some (.int what)]) (st1 := [.int what]) (s1 := s) rfl ?_
  refine UP.cI (M1 := m_X7_isThree) (as := [.int what]) (rest := []) (T := F_isThree s what) rfl rfl (ux_isThree s what) ?_
  refine mrg (m_cmp .eq (F_isThree s what) 0) ((-2 : Int32), s) ((F_swapOf s what).1, (F_swapOf s what).2) (fun w3 : Int32 × SG => UP m_X7_swap 8 [some (.ref 123), some (.int what)] [.int w3.1] w3.2 (Qb (F_swap s what))) (fun cc kk => ?_) (fun cc kk => ?_) (fun w3 e3 => ?_)
  · skip
    refine UP.ifT rfl cc ?_
    refine UP.stp 1 (i1 := 8) (L1 := [some (.ref 123), some (.int what)]) (st1 := [.int (-2)]) (s1 := s) rfl ?_
    exact kk
  · skip
    refine UP.ifF rfl cc ?_
    refine UP.stp 2 (i1 := 5) (L1 := [some (.ref 123), some (.int what)]) (st1 := [.int what, .ref 123]) (s1 := s) rfl ?_
    refine UP.cB (M1 := m_X7_swapOf) (as := [.ref 123, .int what]) (rest := []) (T := F_swapOf s what) rfl rfl (ux_swapOf s what) (fun z2 e2 => ?_)
    refine UP.stp 1 (i1 := 8) (L1 := [some (.ref 123), some (.int what)]) (st1 := [.int z2.1]) (s1 := z2.2) rfl ?_
    subst e2
    exact kk
  exact UP.ret (r := some (.int w3.1)) rfl ⟨by subst e3; rfl, by subst e3; rfl⟩
def W_isSeen : List (Nat × Nat × Option Nat) := [(126, 129, none), (133, 144, none), (147, 147, none), (123, 123, some 2), (123, 123, some 5), (123, 123, some 7), (123, 123, some 17), (123, 123, some 19), (123, 123, some 20), (123, 123, some 21), (123, 123, some 22), (123, 123, some 23), (123, 123, some 24), (123, 123, some 25), (123, 123, some 26), (123, 123, some 27)]
def B_isSeen_6 (z1 : SG) (i2 : Nat) (a2 : Int32) : (Int32) ⊕ (Int32) := bif m_cmp .eq a2 0 then (.inr a2) else (let v3 := bif m_cmp .ne (z1 140 ((z1 145 i2).toNatClampNeg)) (z1 146 i2) then (0 : Int32) else (1 : Int32); .inl v3)
def F_isSeen (s : SG)  : Int32 × SG := let z1 := F_runs s ; Sum.elim (fun z2 : Int32 => (z2, z1)) (fun w2 : Nat × (Int32) => (w2.2, z1)) (itx (B_isSeen_6 z1) 0 ((z1 123 37).toNatClampNeg) (1 : Int32))
theorem fr_isSeen (s : SG)   : Fr W_isSeen s (F_isSeen s).2 := (frElim (m := (fun x : Int32 × SG => x.2)) (fun z2 h => (Fr.tr (Fr.rf _ _) (Fr.wk (W2 := W_isSeen) (fr_runs _) (by rfl)))) (fun w2 h => (Fr.tr (Fr.rf _ _) (Fr.wk (W2 := W_isSeen) (fr_runs _) (by rfl)))))
theorem ux_isSeen (s : SG)   : UP m_X7_isSeen 0 (m_ent 3 [.ref 123]) [] s (Qb (F_isSeen s)) := by
  refine UP.stp 1 (i1 := 1) (L1 := [some (.ref 123), none, none]) (st1 := [.ref 123]) (s1 := s) rfl ?_
  refine UP.cV (M1 := m_X7_runs) (as := [.ref 123]) (rest := []) (T := F_runs s ) rfl rfl (ux_runs s ) (fun z1 e1 => ?_)
  refine UP.stp 4 (i1 := 6) (L1 := [some (.ref 123), some (.int 1), some (.int 0)]) (st1 := []) (s1 := z1) rfl ?_
  refine lpx (fun (i2 : Nat) (a2 : Int32) => UP m_X7_isSeen 6 [some (.ref 123), some (.int a2), some (.int (Int32.ofNat i2))] [] z1 (Qb (F_isSeen s))) (fun (i2 : Nat) (b2 : Int32) => ∀ (u2_0 : Option Value) (u2_2 : Option Value), UP m_X7_isSeen 30 [u2_0, some (.int b2), u2_2] [] z1 (Qb (F_isSeen s))) (fun (_ : Nat) (a2 : Int32) => Fr W_isSeen z1 z1) (B_isSeen_6 z1) ((z1 123 37).toNatClampNeg) (fun i2 a2 x2 hi2 g2 e => g2) (fun i2 a2 hi2 g2 kk => ?_) ((z1 123 37).toNatClampNeg) (0) (1 : Int32) (by omega) (Fr.rf _ _) (fun z2 e2 g2 => ?_) (fun i2 a2 b2 e2 hi2 g2 f2 => ?_)
  · skip
    have hbi2 := cl_lt (z1 123 37)
    refine UP.stp 3 (i1 := 9) (L1 := [some (.ref 123), some (.int a2), some (.int (Int32.ofNat i2))]) (st1 := [.int (z1 123 37), .int (Int32.ofNat i2)]) (s1 := z1) rfl ?_
    refine UP.icF rfl (ge_F hi2) ?_
    refine UP.stp 1 (i1 := 11) (L1 := [some (.ref 123), some (.int a2), some (.int (Int32.ofNat i2))]) (st1 := [.int a2]) (s1 := z1) rfl ?_
    refine brk (K := (Kx (fun (i2 : Nat) (a2 : Int32) => UP m_X7_isSeen 6 [some (.ref 123), some (.int a2), some (.int (Int32.ofNat i2))] [] z1 (Qb (F_isSeen s))) (fun (i2 : Nat) (b2 : Int32) => ∀ (u2_0 : Option Value) (u2_2 : Option Value), UP m_X7_isSeen 30 [u2_0, some (.int b2), u2_2] [] z1 (Qb (F_isSeen s))) i2)) (m_cmp .eq a2 0) (.inr a2) (let v3 := bif m_cmp .ne (z1 140 ((z1 145 i2).toNatClampNeg)) (z1 146 i2) then (0 : Int32) else (1 : Int32); .inl v3) (by exact kk) (fun cc kk => ?_) (fun cc kk => ?_)
    · skip
      refine UP.ifT rfl cc ?_
      exact kk _ _
    · skip
      refine UP.ifF rfl cc ?_
      refine UP.stp 5 (i1 := 17) (L1 := [some (.ref 123), some (.int a2), some (.int (Int32.ofNat i2))]) (st1 := [.int (Int32.ofNat i2), .ref 145, .ref 140]) (s1 := z1) rfl ?_
      refine UP.ald (e := i2) rfl rfl (by omega) ?_
      show UP m_X7_isSeen 18 [some (.ref 123), some (.int a2), some (.int (Int32.ofNat i2))] [.int (z1 145 i2), .ref 140] z1 (Qb (F_isSeen s))
      refine UP.stp 4 (i1 := 22) (L1 := [some (.ref 123), some (.int a2), some (.int (Int32.ofNat i2))]) (st1 := [.int (Int32.ofNat i2), .ref 146, .int (z1 140 ((z1 145 i2).toNatClampNeg))]) (s1 := z1) rfl ?_
      refine UP.ald (e := i2) rfl rfl (by omega) ?_
      show UP m_X7_isSeen 23 [some (.ref 123), some (.int a2), some (.int (Int32.ofNat i2))] [.int (z1 146 i2), .int (z1 140 ((z1 145 i2).toNatClampNeg))] z1 (Qb (F_isSeen s))
      refine mrg (m_cmp .ne (z1 140 ((z1 145 i2).toNatClampNeg)) (z1 146 i2)) (0 : Int32) (1 : Int32) (fun v3 : Int32 => UP m_X7_isSeen 27 [some (.ref 123), some (.int a2), some (.int (Int32.ofNat i2))] [.int v3] z1 (Qb (F_isSeen s))) (fun cc kk => ?_) (fun cc kk => ?_) (fun v3 e3 => ?_)
      · skip
        refine UP.icT rfl cc ?_
        refine UP.stp 1 (i1 := 27) (L1 := [some (.ref 123), some (.int a2), some (.int (Int32.ofNat i2))]) (st1 := [.int 0]) (s1 := z1) rfl ?_
        exact kk
      · skip
        refine UP.icF rfl cc ?_
        refine UP.stp 2 (i1 := 27) (L1 := [some (.ref 123), some (.int a2), some (.int (Int32.ofNat i2))]) (st1 := [.int 1]) (s1 := z1) rfl ?_
        exact kk
      refine UP.stp 3 (i1 := 6) (L1 := [some (.ref 123), some (.int v3), some (.int ((Int32.ofNat i2) + 1))]) (st1 := []) (s1 := z1) rfl ?_
      subst e3
      rw [ofn_s]
      exact kk
  · skip
    refine UP.eqT ((z2, z1)) (by subst e1; show Sum.elim (fun z2 : Int32 => (z2, z1)) (fun w2 : Nat × (Int32) => (w2.2, z1)) (itx (B_isSeen_6 z1) 0 ((z1 123 37).toNatClampNeg) (1 : Int32)) = _; rw [e2]; rfl) ?_
    refine UP.stp 3 (i1 := 9) (L1 := [some (.ref 123), some (.int z2), some (.int (Int32.ofNat ((z1 123 37).toNatClampNeg)))]) (st1 := [.int (z1 123 37), .int (Int32.ofNat ((z1 123 37).toNatClampNeg))]) (s1 := z1) rfl ?_
    refine UP.icT rfl (ge_T _) ?_
    refine UP.stp 1 (i1 := 31) (L1 := [some (.ref 123), some (.int z2), some (.int (Int32.ofNat ((z1 123 37).toNatClampNeg)))]) (st1 := [.int z2]) (s1 := z1) rfl ?_
    exact UP.ret (r := some (.int z2)) rfl ⟨by subst e1; rfl, by subst e1; rfl⟩
  · skip
    intro u2_0 u2_2
    refine UP.eqT ((b2, z1)) (by subst e1; show Sum.elim (fun z2 : Int32 => (z2, z1)) (fun w2 : Nat × (Int32) => (w2.2, z1)) (itx (B_isSeen_6 z1) 0 ((z1 123 37).toNatClampNeg) (1 : Int32)) = _; rw [e2]; rfl) ?_
    refine UP.stp 1 (i1 := 31) (L1 := [u2_0, some (.int b2), u2_2]) (st1 := [.int b2]) (s1 := z1) rfl ?_
    exact UP.ret (r := some (.int b2)) rfl ⟨by subst e1; rfl, by subst e1; rfl⟩
def W_neverNow : List (Nat × Nat × Option Nat) := [(126, 129, none), (133, 144, none), (147, 147, none), (123, 123, some 2), (123, 123, some 5), (123, 123, some 7), (123, 123, some 17), (123, 123, some 19), (123, 123, some 20), (123, 123, some 21), (123, 123, some 22), (123, 123, some 23), (123, 123, some 24), (123, 123, some 25), (123, 123, some 26), (123, 123, some 27)]
def B_neverNow_6  (i2 : Nat) (a2 : SG × Int32) : SG × Int32 := let v3 := 1 <<< ((Int32.ofNat i2) &&& 31); let z4 := F_isSeen (uset a2.1 123 17 v3) ; let v5 := bif m_cmp .eq z4.1 0 then (0 : Int32) else 1 <<< ((Int32.ofNat i2) &&& 31); let v6 := a2.2 ||| v5; (z4.2, v6)
theorem fr_B_neverNow_6  (i2 : Nat) (a2 : SG × Int32)   : Fr W_neverNow a2.1 ((B_neverNow_6) i2 a2).1 := (Fr.tr (Fr.uset (by rfl) (Fr.rf _ _)) (Fr.wk (W2 := W_neverNow) (fr_isSeen _) (by rfl)))
def F_neverNow (s : SG)  : Int32 × SG := let z1 := F_asTold s ; let z2 := itr (B_neverNow_6) 0 ((z1 123 11).toNatClampNeg) (z1, 0); (z2.2, z2.1)
theorem fr_neverNow (s : SG)   : Fr W_neverNow s (F_neverNow s).2 := (Fr.itr (W := W_neverNow) (m := (fun x : SG × Int32 => x.1)) (fun i a => Fr.wk (W2 := W_neverNow) (fr_B_neverNow_6  i a ) (by rfl)) _ _ _ (Fr.tr (Fr.rf _ _) (Fr.wk (W2 := W_neverNow) (fr_asTold _) (by rfl))))
theorem ux_neverNow (s : SG)   : UP m_X7_neverNow 0 (m_ent 3 [.ref 123]) [] s (Qb (F_neverNow s)) := by
  refine UP.stp 1 (i1 := 1) (L1 := [some (.ref 123), none, none]) (st1 := [.ref 123]) (s1 := s) rfl ?_
  refine UP.cV (M1 := m_X7_asTold) (as := [.ref 123]) (rest := []) (T := F_asTold s ) rfl rfl (ux_asTold s ) (fun z1 e1 => ?_)
  refine UP.stp 4 (i1 := 6) (L1 := [some (.ref 123), some (.int 0), some (.int 0)]) (st1 := []) (s1 := z1) rfl ?_
  refine lp (fun (i2 : Nat) (a2 : SG × Int32) => UP m_X7_neverNow 6 [some (.ref 123), some (.int a2.2), some (.int (Int32.ofNat i2))] [] a2.1 (Qb (F_neverNow s))) (fun (_ : Nat) (a2 : SG × Int32) => Fr W_neverNow z1 a2.1) (B_neverNow_6) ((z1 123 11).toNatClampNeg) (fun i2 a2 hi2 g2 => g2.tr (fr_B_neverNow_6  i2 a2 )) (fun i2 a2 hi2 g2 kk => ?_) ((z1 123 11).toNatClampNeg) (0) (z1, 0) (by omega) (Fr.rf _ _) (fun z2 e2 g2 => ?_)
  · skip
    have hbi2 := cl_lt (z1 123 11)
    refine UP.stp 3 (i1 := 9) (L1 := [some (.ref 123), some (.int a2.2), some (.int (Int32.ofNat i2))]) (st1 := [.int (a2.1 123 11), .int (Int32.ofNat i2)]) (s1 := a2.1) rfl ?_
    refine UP.icF rfl (by rw [(g2 123 11 rfl)]; exact ge_F hi2) ?_
    refine UP.stp 4 (i1 := 14) (L1 := [some (.ref 123), some (.int a2.2), some (.int (Int32.ofNat i2))]) (st1 := [.int (1 <<< ((Int32.ofNat i2) &&& 31)), .ref 123]) (s1 := a2.1) rfl ?_
    refine nm (G := fun v3 => UP m_X7_neverNow 14 [some (.ref 123), some (.int a2.2), some (.int (Int32.ofNat i2))] [.int v3, .ref 123] a2.1 (Qb (F_neverNow s))) (1 <<< ((Int32.ofNat i2) &&& 31)) (fun v3 e3 => ?_)
    refine UP.stp 3 (i1 := 17) (L1 := [some (.ref 123), some (.int a2.2), some (.int (Int32.ofNat i2))]) (st1 := [.ref 123, .int a2.2]) (s1 := (uset a2.1 123 17 v3)) rfl ?_
    refine UP.cB (M1 := m_X7_isSeen) (as := [.ref 123]) (rest := [.int a2.2]) (T := F_isSeen (uset a2.1 123 17 v3) ) rfl rfl (ux_isSeen (uset a2.1 123 17 v3) ) (fun z4 e4 => ?_)
    refine mrg (m_cmp .eq z4.1 0) (0 : Int32) (1 <<< ((Int32.ofNat i2) &&& 31)) (fun v5 : Int32 => UP m_X7_neverNow 24 [some (.ref 123), some (.int a2.2), some (.int (Int32.ofNat i2))] [.int v5, .int a2.2] z4.2 (Qb (F_neverNow s))) (fun cc kk => ?_) (fun cc kk => ?_) (fun v5 e5 => ?_)
    · skip
      refine UP.ifT rfl cc ?_
      refine UP.stp 1 (i1 := 24) (L1 := [some (.ref 123), some (.int a2.2), some (.int (Int32.ofNat i2))]) (st1 := [.int 0, .int a2.2]) (s1 := z4.2) rfl ?_
      exact kk
    · skip
      refine UP.ifF rfl cc ?_
      refine UP.stp 4 (i1 := 24) (L1 := [some (.ref 123), some (.int a2.2), some (.int (Int32.ofNat i2))]) (st1 := [.int (1 <<< ((Int32.ofNat i2) &&& 31)), .int a2.2]) (s1 := z4.2) rfl ?_
      exact kk
    refine UP.stp 1 (i1 := 25) (L1 := [some (.ref 123), some (.int a2.2), some (.int (Int32.ofNat i2))]) (st1 := [.int (a2.2 ||| v5)]) (s1 := z4.2) rfl ?_
    refine nm (G := fun v6 => UP m_X7_neverNow 25 [some (.ref 123), some (.int a2.2), some (.int (Int32.ofNat i2))] [.int v6] z4.2 (Qb (F_neverNow s))) (a2.2 ||| v5) (fun v6 e6 => ?_)
    refine UP.stp 3 (i1 := 6) (L1 := [some (.ref 123), some (.int v6), some (.int ((Int32.ofNat i2) + 1))]) (st1 := []) (s1 := z4.2) rfl ?_
    subst e6 e5 e4 e3
    rw [ofn_s]
    exact kk
  refine UP.stp 3 (i1 := 9) (L1 := [some (.ref 123), some (.int z2.2), some (.int (Int32.ofNat ((z1 123 11).toNatClampNeg)))]) (st1 := [.int (z2.1 123 11), .int (Int32.ofNat ((z1 123 11).toNatClampNeg))]) (s1 := z2.1) rfl ?_
  refine UP.icT rfl (by rw [(g2 123 11 rfl)]; exact ge_T _) ?_
  refine UP.stp 1 (i1 := 29) (L1 := [some (.ref 123), some (.int z2.2), some (.int (Int32.ofNat ((z1 123 11).toNatClampNeg)))]) (st1 := [.int z2.2]) (s1 := z2.1) rfl ?_
  exact UP.ret (r := some (.int z2.2)) rfl ⟨by subst e2 e1; rfl, by subst e2 e1; rfl⟩
def W_never : List (Nat × Nat × Option Nat) := [(126, 129, none), (133, 144, none), (147, 147, none), (123, 123, some 2), (123, 123, some 5), (123, 123, some 7), (123, 123, some 17), (123, 123, some 19), (123, 123, some 20), (123, 123, some 21), (123, 123, some 22), (123, 123, some 23), (123, 123, some 24), (123, 123, some 25), (123, 123, some 26), (123, 123, some 27)]
def F_never (s : SG)  : Int32 × SG := let z1 := F_neverNow s ; (z1.1, z1.2)
theorem fr_never (s : SG)   : Fr W_never s (F_never s).2 := (Fr.tr (Fr.rf _ _) (Fr.wk (W2 := W_never) (fr_neverNow _) (by rfl)))
theorem ux_never (s : SG)   : UP m_X7_never 0 (m_ent 1 [.ref 123]) [] s (Qb (F_never s)) := by
  refine UP.stp 1 (i1 := 1) (L1 := [some (.ref 123)]) (st1 := [.ref 123]) (s1 := s) rfl ?_
  refine UP.cB (M1 := m_X7_neverNow) (as := [.ref 123]) (rest := []) (T := F_neverNow s ) rfl rfl (ux_neverNow s ) (fun z1 e1 => ?_)
  exact UP.ret (r := some (.int z1.1)) rfl ⟨by subst e1; rfl, by subst e1; rfl⟩
def W_powersBy : List (Nat × Nat × Option Nat) := [(126, 129, none), (133, 144, none), (147, 147, none), (123, 123, some 2), (123, 123, some 5), (123, 123, some 7), (123, 123, some 17), (123, 123, some 19), (123, 123, some 20), (123, 123, some 21), (123, 123, some 22), (123, 123, some 23), (123, 123, some 24), (123, 123, some 25), (123, 123, some 26), (123, 123, some 27)]
def B_powersBy_32  (i7 : Nat) (a7 : SG) : SG := let v8 := a7 140 i7; (uset a7 147 (24 * i3 + i7) v8)
theorem fr_B_powersBy_32  (i7 : Nat) (a7 : SG)  (hi7 : i7 < 24) : Fr W_powersBy a7 ((B_powersBy_32) i7 a7) := (Fr.uset (by rfl) (Fr.rf _ _))
def B_powersBy_11 (k : Int32) (i3 : Nat) (a3 : SG × Int32) : SG × Int32 := let z4 := F_isSeen (uset a3.1 127 k.toNatClampNeg (Int32.ofNat i3)) ; let v5 := bif m_cmp .eq z4.1 0 then (0 : Int32) else 1 <<< ((Int32.ofNat i3) &&& 31); let v6 := a3.2 ||| v5; let z7 := itr (B_powersBy_32) 0 24 z4.2; (z7, v6)
theorem fr_B_powersBy_11 (k : Int32) (i3 : Nat) (a3 : SG × Int32)  (hi3 : i3 < 10) : Fr W_powersBy a3.1 ((B_powersBy_11 k) i3 a3).1 := (frItrB (W := W_powersBy) (m := (fun x : SG => x)) 24 (fun i a h => Fr.wk (W2 := W_powersBy) (fr_B_powersBy_32  i a  h) (by rfl)) _ _ _ (by omega) (Fr.tr (Fr.uset (by rfl) (Fr.rf _ _)) (Fr.wk (W2 := W_powersBy) (fr_isSeen _) (by rfl))))
def F_powersBy (s : SG) (k : Int32) : Int32 × SG := let z1 := F_asTold s ; let v2 := z1 127 k.toNatClampNeg; let z3 := itr (B_powersBy_11 k) 1 (10 - 1) (z1, 0); (z3.2, (uset z3.1 127 k.toNatClampNeg v2))
theorem fr_powersBy (s : SG) (k : Int32)  : Fr W_powersBy s (F_powersBy s k).2 := (Fr.uset (by rfl) (frItrB (W := W_powersBy) (m := (fun x : SG × Int32 => x.1)) 10 (fun i a h => Fr.wk (W2 := W_powersBy) (fr_B_powersBy_11 _ i a  h) (by rfl)) _ _ _ (by omega) (Fr.tr (Fr.rf _ _) (Fr.wk (W2 := W_powersBy) (fr_asTold _) (by rfl)))))
theorem ux_powersBy (s : SG) (k : Int32)  : UP m_X7_powersBy 0 (m_ent 6 [.ref 123, .int k]) [] s (Qb (F_powersBy s k)) := by
  refine UP.stp 1 (i1 := 1) (L1 := [some (.ref 123), some (.int k), none, none, none, none]) (st1 := [.ref 123]) (s1 := s) rfl ?_
  refine UP.cV (M1 := m_X7_asTold) (as := [.ref 123]) (rest := []) (T := F_asTold s ) rfl rfl (ux_asTold s ) (fun z1 e1 => ?_)
  refine UP.stp 4 (i1 := 6) (L1 := [some (.ref 123), some (.int k), none, none, none, none]) (st1 := [.int (z1 127 k.toNatClampNeg)]) (s1 := z1) rfl ?_
  refine nm (G := fun v2 => UP m_X7_powersBy 6 [some (.ref 123), some (.int k), none, none, none, none] [.int v2] z1 (Qb (F_powersBy s k))) (z1 127 k.toNatClampNeg) (fun v2 e2 => ?_)
  refine UP.stp 5 (i1 := 11) (L1 := [some (.ref 123), some (.int k), some (.int v2), some (.int 0), some (.int 1), none]) (st1 := []) (s1 := z1) rfl ?_
  refine lp (fun (i3 : Nat) (a3 : SG × Int32) => ∀ (u3_5 : Option Value), UP m_X7_powersBy 11 [some (.ref 123), some (.int k), some (.int v2), some (.int a3.2), some (.int (Int32.ofNat i3)), u3_5] [] a3.1 (Qb (F_powersBy s k))) (fun (_ : Nat) (a3 : SG × Int32) => Fr W_powersBy z1 a3.1) (B_powersBy_11 k) (10) (fun i3 a3 hi3 g3 => g3.tr (fr_B_powersBy_11 k i3 a3 hi3)) (fun i3 a3 hi3 g3 kk => ?_) (10 - 1) (1) (z1, 0) (by omega) (Fr.rf _ _) (fun z3 e3 g3 => ?_) none
  · skip
    intro u3_5
    refine UP.stp 2 (i1 := 13) (L1 := [some (.ref 123), some (.int k), some (.int v2), some (.int a3.2), some (.int (Int32.ofNat i3)), u3_5]) (st1 := [.int 10, .int (Int32.ofNat i3)]) (s1 := a3.1) rfl ?_
    refine UP.icF rfl (ge_F (show i3 < (10 : Int32).toNatClampNeg from hi3)) ?_
    refine UP.stp 7 (i1 := 21) (L1 := [some (.ref 123), some (.int k), some (.int v2), some (.int a3.2), some (.int (Int32.ofNat i3)), u3_5]) (st1 := [.ref 123, .int a3.2]) (s1 := (uset a3.1 127 k.toNatClampNeg (Int32.ofNat i3))) rfl ?_
    refine UP.cB (M1 := m_X7_isSeen) (as := [.ref 123]) (rest := [.int a3.2]) (T := F_isSeen (uset a3.1 127 k.toNatClampNeg (Int32.ofNat i3)) ) rfl rfl (ux_isSeen (uset a3.1 127 k.toNatClampNeg (Int32.ofNat i3)) ) (fun z4 e4 => ?_)
    refine mrg (m_cmp .eq z4.1 0) (0 : Int32) (1 <<< ((Int32.ofNat i3) &&& 31)) (fun v5 : Int32 => UP m_X7_powersBy 28 [some (.ref 123), some (.int k), some (.int v2), some (.int a3.2), some (.int (Int32.ofNat i3)), u3_5] [.int v5, .int a3.2] z4.2 (Qb (F_powersBy s k))) (fun cc kk => ?_) (fun cc kk => ?_) (fun v5 e5 => ?_)
    · skip
      refine UP.ifT rfl cc ?_
      refine UP.stp 1 (i1 := 28) (L1 := [some (.ref 123), some (.int k), some (.int v2), some (.int a3.2), some (.int (Int32.ofNat i3)), u3_5]) (st1 := [.int 0, .int a3.2]) (s1 := z4.2) rfl ?_
      exact kk
    · skip
      refine UP.ifF rfl cc ?_
      refine UP.stp 4 (i1 := 28) (L1 := [some (.ref 123), some (.int k), some (.int v2), some (.int a3.2), some (.int (Int32.ofNat i3)), u3_5]) (st1 := [.int (1 <<< ((Int32.ofNat i3) &&& 31)), .int a3.2]) (s1 := z4.2) rfl ?_
      exact kk
    refine UP.stp 1 (i1 := 29) (L1 := [some (.ref 123), some (.int k), some (.int v2), some (.int a3.2), some (.int (Int32.ofNat i3)), u3_5]) (st1 := [.int (a3.2 ||| v5)]) (s1 := z4.2) rfl ?_
    refine nm (G := fun v6 => UP m_X7_powersBy 29 [some (.ref 123), some (.int k), some (.int v2), some (.int a3.2), some (.int (Int32.ofNat i3)), u3_5] [.int v6] z4.2 (Qb (F_powersBy s k))) (a3.2 ||| v5) (fun v6 e6 => ?_)
    refine UP.stp 3 (i1 := 32) (L1 := [some (.ref 123), some (.int k), some (.int v2), some (.int v6), some (.int (Int32.ofNat i3)), some (.int 0)]) (st1 := []) (s1 := z4.2) rfl ?_
    refine lp (fun (i7 : Nat) (a7 : SG) => UP m_X7_powersBy 32 [some (.ref 123), some (.int k), some (.int v2), some (.int v6), some (.int (Int32.ofNat i3)), some (.int (Int32.ofNat i7))] [] a7 (Qb (F_powersBy s k))) (fun (_ : Nat) (a7 : SG) => Fr W_powersBy z4.2 a7) (B_powersBy_32) (24) (fun i7 a7 hi7 g7 => g7.tr (fr_B_powersBy_32  i7 a7 hi7)) (fun i7 a7 hi7 g7 kk => ?_) 24 (0) z4.2 (by omega) (Fr.rf _ _) (fun z7 e7 g7 => ?_)
    · skip
      refine UP.stp 2 (i1 := 34) (L1 := [some (.ref 123), some (.int k), some (.int v2), some (.int v6), some (.int (Int32.ofNat i3)), some (.int (Int32.ofNat i7))]) (st1 := [.int 24, .int (Int32.ofNat i7)]) (s1 := a7) rfl ?_
      refine UP.icF rfl (ge_F (show i7 < (24 : Int32).toNatClampNeg from hi7)) ?_
      refine UP.stp 10 (i1 := 45) (L1 := [some (.ref 123), some (.int k), some (.int v2), some (.int v6), some (.int (Int32.ofNat i3)), some (.int (Int32.ofNat i7))]) (st1 := [.int (Int32.ofNat i7), .ref 140, .int ((24 * (Int32.ofNat i3)) + (Int32.ofNat i7)), .ref 147]) (s1 := a7) rfl ?_
      refine UP.ald (e := i7) rfl rfl (by omega) ?_
      show UP m_X7_powersBy 46 [some (.ref 123), some (.int k), some (.int v2), some (.int v6), some (.int (Int32.ofNat i3)), some (.int (Int32.ofNat i7))] [.int (a7 140 i7), .int ((24 * (Int32.ofNat i3)) + (Int32.ofNat i7)), .ref 147] a7 (Qb (F_powersBy s k))
      refine nm (G := fun v8 => UP m_X7_powersBy 46 [some (.ref 123), some (.int k), some (.int v2), some (.int v6), some (.int (Int32.ofNat i3)), some (.int (Int32.ofNat i7))] [.int v8, .int ((24 * (Int32.ofNat i3)) + (Int32.ofNat i7)), .ref 147] a7 (Qb (F_powersBy s k))) (a7 140 i7) (fun v8 e8 => ?_)
      refine UP.ast (e := 24 * i3 + i7) rfl (ofn_add (ofn_mul rfl rfl) rfl) (by omega) ?_
      show UP m_X7_powersBy 47 [some (.ref 123), some (.int k), some (.int v2), some (.int v6), some (.int (Int32.ofNat i3)), some (.int (Int32.ofNat i7))] [] (uset a7 147 (24 * i3 + i7) v8) (Qb (F_powersBy s k))
      refine UP.stp 2 (i1 := 32) (L1 := [some (.ref 123), some (.int k), some (.int v2), some (.int v6), some (.int (Int32.ofNat i3)), some (.int ((Int32.ofNat i7) + 1))]) (st1 := []) (s1 := (uset a7 147 (24 * i3 + i7) v8)) rfl ?_
      subst e8
      rw [ofn_s]
      exact kk
    refine UP.stp 2 (i1 := 34) (L1 := [some (.ref 123), some (.int k), some (.int v2), some (.int v6), some (.int (Int32.ofNat i3)), some (.int (Int32.ofNat 24))]) (st1 := [.int 24, .int (Int32.ofNat 24)]) (s1 := z7) rfl ?_
    refine UP.icT rfl (ge_T (24 : Int32)) ?_
    refine UP.stp 2 (i1 := 11) (L1 := [some (.ref 123), some (.int k), some (.int v2), some (.int v6), some (.int ((Int32.ofNat i3) + 1)), some (.int (Int32.ofNat 24))]) (st1 := []) (s1 := z7) rfl ?_
    subst e7 e6 e5 e4
    rw [ofn_s]
    exact kk _
  intro u3_5
  refine UP.stp 2 (i1 := 13) (L1 := [some (.ref 123), some (.int k), some (.int v2), some (.int z3.2), some (.int (Int32.ofNat 10)), u3_5]) (st1 := [.int 10, .int (Int32.ofNat 10)]) (s1 := z3.1) rfl ?_
  refine UP.icT rfl (ge_T (10 : Int32)) ?_
  refine UP.stp 6 (i1 := 57) (L1 := [some (.ref 123), some (.int k), some (.int v2), some (.int z3.2), some (.int (Int32.ofNat 10)), u3_5]) (st1 := [.int z3.2]) (s1 := (uset z3.1 127 k.toNatClampNeg v2)) rfl ?_
  exact UP.ret (r := some (.int z3.2)) rfl ⟨by subst e3 e2 e1; rfl, by subst e3 e2 e1; rfl⟩
def W_sortsBy : List (Nat × Nat × Option Nat) := [(126, 129, none), (133, 144, none), (147, 147, none), (123, 123, some 2), (123, 123, some 5), (123, 123, some 7), (123, 123, some 17), (123, 123, some 19), (123, 123, some 20), (123, 123, some 21), (123, 123, some 22), (123, 123, some 23), (123, 123, some 24), (123, 123, some 25), (123, 123, some 26), (123, 123, some 27)]
def B_sortsBy_11 (k : Int32) (i3 : Nat) (a3 : SG × Int32) : SG × Int32 := let z4 := F_isSeen (uset a3.1 126 k.toNatClampNeg (Int32.ofNat i3)) ; let v5 := bif m_cmp .eq z4.1 0 then (0 : Int32) else 1 <<< ((Int32.ofNat i3) &&& 31); let v6 := a3.2 ||| v5; (z4.2, v6)
theorem fr_B_sortsBy_11 (k : Int32) (i3 : Nat) (a3 : SG × Int32)  (hi3 : i3 < 3) : Fr W_sortsBy a3.1 ((B_sortsBy_11 k) i3 a3).1 := (Fr.tr (Fr.uset (by rfl) (Fr.rf _ _)) (Fr.wk (W2 := W_sortsBy) (fr_isSeen _) (by rfl)))
def F_sortsBy (s : SG) (k : Int32) : Int32 × SG := let z1 := F_asTold s ; let v2 := z1 126 k.toNatClampNeg; let z3 := itr (B_sortsBy_11 k) 0 3 (z1, 0); (z3.2, (uset z3.1 126 k.toNatClampNeg v2))
theorem fr_sortsBy (s : SG) (k : Int32)  : Fr W_sortsBy s (F_sortsBy s k).2 := (Fr.uset (by rfl) (frItrB (W := W_sortsBy) (m := (fun x : SG × Int32 => x.1)) 3 (fun i a h => Fr.wk (W2 := W_sortsBy) (fr_B_sortsBy_11 _ i a  h) (by rfl)) _ _ _ (by omega) (Fr.tr (Fr.rf _ _) (Fr.wk (W2 := W_sortsBy) (fr_asTold _) (by rfl)))))
theorem ux_sortsBy (s : SG) (k : Int32)  : UP m_X7_sortsBy 0 (m_ent 5 [.ref 123, .int k]) [] s (Qb (F_sortsBy s k)) := by
  refine UP.stp 1 (i1 := 1) (L1 := [some (.ref 123), some (.int k), none, none, none]) (st1 := [.ref 123]) (s1 := s) rfl ?_
  refine UP.cV (M1 := m_X7_asTold) (as := [.ref 123]) (rest := []) (T := F_asTold s ) rfl rfl (ux_asTold s ) (fun z1 e1 => ?_)
  refine UP.stp 4 (i1 := 6) (L1 := [some (.ref 123), some (.int k), none, none, none]) (st1 := [.int (z1 126 k.toNatClampNeg)]) (s1 := z1) rfl ?_
  refine nm (G := fun v2 => UP m_X7_sortsBy 6 [some (.ref 123), some (.int k), none, none, none] [.int v2] z1 (Qb (F_sortsBy s k))) (z1 126 k.toNatClampNeg) (fun v2 e2 => ?_)
  refine UP.stp 5 (i1 := 11) (L1 := [some (.ref 123), some (.int k), some (.int v2), some (.int 0), some (.int 0)]) (st1 := []) (s1 := z1) rfl ?_
  refine lp (fun (i3 : Nat) (a3 : SG × Int32) => UP m_X7_sortsBy 11 [some (.ref 123), some (.int k), some (.int v2), some (.int a3.2), some (.int (Int32.ofNat i3))] [] a3.1 (Qb (F_sortsBy s k))) (fun (_ : Nat) (a3 : SG × Int32) => Fr W_sortsBy z1 a3.1) (B_sortsBy_11 k) (3) (fun i3 a3 hi3 g3 => g3.tr (fr_B_sortsBy_11 k i3 a3 hi3)) (fun i3 a3 hi3 g3 kk => ?_) 3 (0) (z1, 0) (by omega) (Fr.rf _ _) (fun z3 e3 g3 => ?_)
  · skip
    refine UP.stp 2 (i1 := 13) (L1 := [some (.ref 123), some (.int k), some (.int v2), some (.int a3.2), some (.int (Int32.ofNat i3))]) (st1 := [.int 3, .int (Int32.ofNat i3)]) (s1 := a3.1) rfl ?_
    refine UP.icF rfl (ge_F (show i3 < (3 : Int32).toNatClampNeg from hi3)) ?_
    refine UP.stp 7 (i1 := 21) (L1 := [some (.ref 123), some (.int k), some (.int v2), some (.int a3.2), some (.int (Int32.ofNat i3))]) (st1 := [.ref 123, .int a3.2]) (s1 := (uset a3.1 126 k.toNatClampNeg (Int32.ofNat i3))) rfl ?_
    refine UP.cB (M1 := m_X7_isSeen) (as := [.ref 123]) (rest := [.int a3.2]) (T := F_isSeen (uset a3.1 126 k.toNatClampNeg (Int32.ofNat i3)) ) rfl rfl (ux_isSeen (uset a3.1 126 k.toNatClampNeg (Int32.ofNat i3)) ) (fun z4 e4 => ?_)
    refine mrg (m_cmp .eq z4.1 0) (0 : Int32) (1 <<< ((Int32.ofNat i3) &&& 31)) (fun v5 : Int32 => UP m_X7_sortsBy 28 [some (.ref 123), some (.int k), some (.int v2), some (.int a3.2), some (.int (Int32.ofNat i3))] [.int v5, .int a3.2] z4.2 (Qb (F_sortsBy s k))) (fun cc kk => ?_) (fun cc kk => ?_) (fun v5 e5 => ?_)
    · skip
      refine UP.ifT rfl cc ?_
      refine UP.stp 1 (i1 := 28) (L1 := [some (.ref 123), some (.int k), some (.int v2), some (.int a3.2), some (.int (Int32.ofNat i3))]) (st1 := [.int 0, .int a3.2]) (s1 := z4.2) rfl ?_
      exact kk
    · skip
      refine UP.ifF rfl cc ?_
      refine UP.stp 4 (i1 := 28) (L1 := [some (.ref 123), some (.int k), some (.int v2), some (.int a3.2), some (.int (Int32.ofNat i3))]) (st1 := [.int (1 <<< ((Int32.ofNat i3) &&& 31)), .int a3.2]) (s1 := z4.2) rfl ?_
      exact kk
    refine UP.stp 1 (i1 := 29) (L1 := [some (.ref 123), some (.int k), some (.int v2), some (.int a3.2), some (.int (Int32.ofNat i3))]) (st1 := [.int (a3.2 ||| v5)]) (s1 := z4.2) rfl ?_
    refine nm (G := fun v6 => UP m_X7_sortsBy 29 [some (.ref 123), some (.int k), some (.int v2), some (.int a3.2), some (.int (Int32.ofNat i3))] [.int v6] z4.2 (Qb (F_sortsBy s k))) (a3.2 ||| v5) (fun v6 e6 => ?_)
    refine UP.stp 3 (i1 := 11) (L1 := [some (.ref 123), some (.int k), some (.int v2), some (.int v6), some (.int ((Int32.ofNat i3) + 1))]) (st1 := []) (s1 := z4.2) rfl ?_
    subst e6 e5 e4
    rw [ofn_s]
    exact kk
  refine UP.stp 2 (i1 := 13) (L1 := [some (.ref 123), some (.int k), some (.int v2), some (.int z3.2), some (.int (Int32.ofNat 3))]) (st1 := [.int 3, .int (Int32.ofNat 3)]) (s1 := z3.1) rfl ?_
  refine UP.icT rfl (ge_T (3 : Int32)) ?_
  refine UP.stp 6 (i1 := 38) (L1 := [some (.ref 123), some (.int k), some (.int v2), some (.int z3.2), some (.int (Int32.ofNat 3))]) (st1 := [.int z3.2]) (s1 := (uset z3.1 126 k.toNatClampNeg v2)) rfl ?_
  exact UP.ret (r := some (.int z3.2)) rfl ⟨by subst e3 e2 e1; rfl, by subst e3 e2 e1; rfl⟩
def W_was : List (Nat × Nat × Option Nat) := [(126, 129, none), (133, 144, none), (147, 147, none), (123, 123, some 2), (123, 123, some 5), (123, 123, some 7), (123, 123, some 17), (123, 123, some 19), (123, 123, some 20), (123, 123, some 21), (123, 123, some 22), (123, 123, some 23), (123, 123, some 24), (123, 123, some 25), (123, 123, some 26), (123, 123, some 27)]
def F_was (s : SG) (seat : Int32) (what : Int32) : Int32 × SG := let z1 := F_isRower s seat; let w7 := bif m_cmp .eq z1.1 0 then ((-2 : Int32), z1.2) else ((bif m_cmp .eq (F_isTwo z1.2 what) 0 then ((-2 : Int32), z1.2) else ((bif m_cmp .ne what 0 then ((F_sortsBy z1.2 seat).1, (F_sortsBy z1.2 seat).2) else ((F_powersBy z1.2 seat).1, (F_powersBy z1.2 seat).2)).1, (bif m_cmp .ne what 0 then ((F_sortsBy z1.2 seat).1, (F_sortsBy z1.2 seat).2) else ((F_powersBy z1.2 seat).1, (F_powersBy z1.2 seat).2)).2)).1, (bif m_cmp .eq (F_isTwo z1.2 what) 0 then ((-2 : Int32), z1.2) else ((bif m_cmp .ne what 0 then ((F_sortsBy z1.2 seat).1, (F_sortsBy z1.2 seat).2) else ((F_powersBy z1.2 seat).1, (F_powersBy z1.2 seat).2)).1, (bif m_cmp .ne what 0 then ((F_sortsBy z1.2 seat).1, (F_sortsBy z1.2 seat).2) else ((F_powersBy z1.2 seat).1, (F_powersBy z1.2 seat).2)).2)).2); (w7.1, w7.2)
theorem fr_was (s : SG) (seat : Int32) (what : Int32)  : Fr W_was s (F_was s seat what).2 := (Fr.bifp (fun x : Int32 × SG => x.2) (Fr.tr (Fr.rf _ _) (Fr.wk (W2 := W_was) (fr_isRower _ _) (by rfl))) (Fr.bifp (fun x : Int32 × SG => x.2) (Fr.tr (Fr.rf _ _) (Fr.wk (W2 := W_was) (fr_isRower _ _) (by rfl))) (Fr.bifp (fun x : Int32 × SG => x.2) (Fr.tr (Fr.tr (Fr.rf _ _) (Fr.wk (W2 := W_was) (fr_isRower _ _) (by rfl))) (Fr.wk (W2 := W_was) (fr_sortsBy _ _) (by rfl))) (Fr.tr (Fr.tr (Fr.rf _ _) (Fr.wk (W2 := W_was) (fr_isRower _ _) (by rfl))) (Fr.wk (W2 := W_was) (fr_powersBy _ _) (by rfl))))))
theorem ux_was (s : SG) (seat : Int32) (what : Int32)  : UP m_X7_was 0 (m_ent 3 [.ref 123, .int seat, .int what]) [] s (Qb (F_was s seat what)) := by
  refine UP.stp 2 (i1 := 2) (L1 := [some (.ref 123), some (.int seat), some (.int what)]) (st1 := [.int seat, .ref 123]) (s1 := s) rfl ?_
  refine UP.cB (M1 := m_X7_isRower) (as := [.ref 123, .int seat]) (rest := []) (T := F_isRower s seat) rfl rfl (ux_isRower s seat) (fun z1 e1 => ?_)
  refine mrg (m_cmp .eq z1.1 0) ((-2 : Int32), z1.2) ((bif m_cmp .eq (F_isTwo z1.2 what) 0 then ((-2 : Int32), z1.2) else ((bif m_cmp .ne what 0 then ((F_sortsBy z1.2 seat).1, (F_sortsBy z1.2 seat).2) else ((F_powersBy z1.2 seat).1, (F_powersBy z1.2 seat).2)).1, (bif m_cmp .ne what 0 then ((F_sortsBy z1.2 seat).1, (F_sortsBy z1.2 seat).2) else ((F_powersBy z1.2 seat).1, (F_powersBy z1.2 seat).2)).2)).1, (bif m_cmp .eq (F_isTwo z1.2 what) 0 then ((-2 : Int32), z1.2) else ((bif m_cmp .ne what 0 then ((F_sortsBy z1.2 seat).1, (F_sortsBy z1.2 seat).2) else ((F_powersBy z1.2 seat).1, (F_powersBy z1.2 seat).2)).1, (bif m_cmp .ne what 0 then ((F_sortsBy z1.2 seat).1, (F_sortsBy z1.2 seat).2) else ((F_powersBy z1.2 seat).1, (F_powersBy z1.2 seat).2)).2)).2) (fun w7 : Int32 × SG => UP m_X7_was 18 [some (.ref 123), some (.int seat), some (.int what)] [.int w7.1] w7.2 (Qb (F_was s seat what))) (fun cc kk => ?_) (fun cc kk => ?_) (fun w7 e7 => ?_)
  · skip
    refine UP.ifT rfl cc ?_
    refine UP.stp 1 (i1 := 18) (L1 := [some (.ref 123), some (.int seat), some (.int what)]) (st1 := [.int (-2)]) (s1 := z1.2) rfl ?_
    exact kk
  · skip
    refine UP.ifF rfl cc ?_
    refine UP.stp 1 (i1 := 5) (L1 := [some (.ref 123), some (.int seat), some (.int what)]) (st1 := [.int what]) (s1 := z1.2) rfl ?_
    refine UP.cI (M1 := m_X7_isTwo) (as := [.int what]) (rest := []) (T := F_isTwo z1.2 what) rfl rfl (ux_isTwo z1.2 what) ?_
    refine mrg (m_cmp .eq (F_isTwo z1.2 what) 0) ((-2 : Int32), z1.2) ((bif m_cmp .ne what 0 then ((F_sortsBy z1.2 seat).1, (F_sortsBy z1.2 seat).2) else ((F_powersBy z1.2 seat).1, (F_powersBy z1.2 seat).2)).1, (bif m_cmp .ne what 0 then ((F_sortsBy z1.2 seat).1, (F_sortsBy z1.2 seat).2) else ((F_powersBy z1.2 seat).1, (F_powersBy z1.2 seat).2)).2) (fun w6 : Int32 × SG => UP m_X7_was 18 [some (.ref 123), some (.int seat), some (.int what)] [.int w6.1] w6.2 (Qb (F_was s seat what))) (fun cc kk => ?_) (fun cc kk => ?_) (fun w6 e6 => ?_)
    · skip
      refine UP.ifT rfl cc ?_
      refine UP.stp 1 (i1 := 18) (L1 := [some (.ref 123), some (.int seat), some (.int what)]) (st1 := [.int (-2)]) (s1 := z1.2) rfl ?_
      exact kk
    · skip
      refine UP.ifF rfl cc ?_
      refine UP.stp 1 (i1 := 8) (L1 := [some (.ref 123), some (.int seat), some (.int what)]) (st1 := [.int what]) (s1 := z1.2) rfl ?_
      refine mrg (m_cmp .ne what 0) ((F_sortsBy z1.2 seat).1, (F_sortsBy z1.2 seat).2) ((F_powersBy z1.2 seat).1, (F_powersBy z1.2 seat).2) (fun w5 : Int32 × SG => UP m_X7_was 18 [some (.ref 123), some (.int seat), some (.int what)] [.int w5.1] w5.2 (Qb (F_was s seat what))) (fun cc kk => ?_) (fun cc kk => ?_) (fun w5 e5 => ?_)
      · skip
        refine UP.ifT rfl cc ?_
        refine UP.stp 2 (i1 := 15) (L1 := [some (.ref 123), some (.int seat), some (.int what)]) (st1 := [.int seat, .ref 123]) (s1 := z1.2) rfl ?_
        refine UP.cB (M1 := m_X7_sortsBy) (as := [.ref 123, .int seat]) (rest := []) (T := F_sortsBy z1.2 seat) rfl rfl (ux_sortsBy z1.2 seat) (fun z3 e3 => ?_)
        refine UP.stp 1 (i1 := 18) (L1 := [some (.ref 123), some (.int seat), some (.int what)]) (st1 := [.int z3.1]) (s1 := z3.2) rfl ?_
        subst e3
        exact kk
      · skip
        refine UP.ifF rfl cc ?_
        refine UP.stp 2 (i1 := 11) (L1 := [some (.ref 123), some (.int seat), some (.int what)]) (st1 := [.int seat, .ref 123]) (s1 := z1.2) rfl ?_
        refine UP.cB (M1 := m_X7_powersBy) (as := [.ref 123, .int seat]) (rest := []) (T := F_powersBy z1.2 seat) rfl rfl (ux_powersBy z1.2 seat) (fun z4 e4 => ?_)
        refine UP.stp 1 (i1 := 18) (L1 := [some (.ref 123), some (.int seat), some (.int what)]) (st1 := [.int z4.1]) (s1 := z4.2) rfl ?_
        subst e4
        exact kk
      subst e5
      exact kk
    subst e6
    exact kk
  exact UP.ret (r := some (.int w7.1)) rfl ⟨by subst e7 e1; rfl, by subst e7 e1; rfl⟩
