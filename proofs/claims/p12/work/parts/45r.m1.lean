/-! the model: a trip, as a function (printed by wip/u/mk_m1.py) -/
def W_isIn : List (Nat × Nat × Option Nat) := []
def F_isIn (s : SG) (b : Int32) (k : Int32) : Int32 := let v1 := bif m_cmp .ne ((b >>> (k &&& 31)) &&& 1) 1 then (0 : Int32) else (1 : Int32); v1
theorem ux_isIn (s : SG) (b : Int32) (k : Int32)  : UP m_X7_isIn 0 (m_ent 2 [.int b, .int k]) [] s (Qi s (F_isIn s b k)) := by
  refine UP.stp 6 (i1 := 6) (L1 := [some (.int b), some (.int k)]) (st1 := [.int 1, .int ((b >>> (k &&& 31)) &&& 1)]) (s1 := s) rfl ?_
  refine mrg (m_cmp .ne ((b >>> (k &&& 31)) &&& 1) 1) (0 : Int32) (1 : Int32) (fun v1 : Int32 => UP m_X7_isIn 10 [some (.int b), some (.int k)] [.int v1] s (Qi s (F_isIn s b k))) (fun cc kk => ?_) (fun cc kk => ?_) (fun v1 e1 => ?_)
  · skip
    refine UP.icT rfl cc ?_
    refine UP.stp 1 (i1 := 10) (L1 := [some (.int b), some (.int k)]) (st1 := [.int 0]) (s1 := s) rfl ?_
    exact kk
  · skip
    refine UP.icF rfl cc ?_
    refine UP.stp 2 (i1 := 10) (L1 := [some (.int b), some (.int k)]) (st1 := [.int 1]) (s1 := s) rfl ?_
    exact kk
  exact UP.ret (r := some (.int v1)) rfl ⟨by subst e1; rfl, by subst e1; rfl⟩
def W_befalls : List (Nat × Nat × Option Nat) := [(123, 123, some 25), (123, 123, some 26), (123, 123, some 27)]
def B_befalls_11 (t : Nat) (i1 : Nat) (a1 : SG) : SG := let v11 := bif m_cmp .ne (a1 131 i1) (Int32.ofNat t) then a1 else (bif m_cmp .ne (F_isIn a1 (a1 123 17) (Int32.ofNat i1)) 0 then a1 else (uset (uset (uset a1 123 25 ((a1 123 25) ||| (bif m_cmp .ne (a1 130 i1) 0 then (0 : Int32) else 1 <<< ((a1 132 i1) &&& 31)))) 123 26 ((a1 123 26) + (bif m_cmp .ne (a1 130 i1) 1 then (0 : Int32) else (bif m_cmp .ne ((a1 132 i1) - (a1 132 i1) / 2 * 2) 1 then (-2 : Int32) else (2 : Int32))))) 123 27 ((a1 123 27) + (bif m_cmp .ne (a1 130 i1) 2 then (0 : Int32) else (3 : Int32))))); v11
theorem fr_B_befalls_11 (t : Nat) (i1 : Nat) (a1 : SG) : Fr W_befalls a1 ((B_befalls_11 t) i1 a1) := (Fr.bif (Fr.rf _ _) (Fr.bif (Fr.rf _ _) (Fr.uset (by rfl) (Fr.uset (by rfl) (Fr.uset (by rfl) (Fr.rf _ _))))))
def F_befalls (s : SG) (t : Nat) : SG := let z1 := itr (B_befalls_11 t) 0 (((uset (uset (uset s 123 25 0) 123 26 0) 123 27 0) 123 11).toNatClampNeg) (uset (uset (uset s 123 25 0) 123 26 0) 123 27 0); z1
theorem fr_befalls (s : SG) (t : Nat)  : Fr W_befalls s (F_befalls s t) := (Fr.itr (m := (fun x : SG => x)) (fun i a => (fr_B_befalls_11 t i a).wk (by rfl)) _ _ _ (Fr.uset (by rfl) (Fr.uset (by rfl) (Fr.uset (by rfl) (Fr.rf _ _)))))
theorem ux_befalls (s : SG) (t : Nat)  : UP m_X7_befalls 0 (m_ent 3 [.ref 123, .int (Int32.ofNat t)]) [] s (Qv (F_befalls s t)) := by
  refine UP.stp 11 (i1 := 11) (L1 := [some (.ref 123), some (.int (Int32.ofNat t)), some (.int 0)]) (st1 := []) (s1 := (uset (uset (uset s 123 25 0) 123 26 0) 123 27 0)) rfl ?_
  refine lp (fun (i1 : Nat) (a1 : SG) => UP m_X7_befalls 11 [some (.ref 123), some (.int (Int32.ofNat t)), some (.int (Int32.ofNat i1))] [] a1 (Qv (F_befalls s t))) (fun (_ : Nat) (a1 : SG) => Fr W_befalls (uset (uset (uset s 123 25 0) 123 26 0) 123 27 0) a1) (B_befalls_11 t) (((uset (uset (uset s 123 25 0) 123 26 0) 123 27 0) 123 11).toNatClampNeg) (fun i1 a1 hi1 g1 => g1.tr (fr_B_befalls_11 t i1 a1)) (fun i1 a1 hi1 g1 kk => ?_) (((uset (uset (uset s 123 25 0) 123 26 0) 123 27 0) 123 11).toNatClampNeg) (0) (uset (uset (uset s 123 25 0) 123 26 0) 123 27 0) (by omega) (Fr.rf _ _) (fun z1 e1 g1 => ?_)
  · skip
    have hbi1 := cl_lt ((uset (uset (uset s 123 25 0) 123 26 0) 123 27 0) 123 11)
    refine UP.stp 3 (i1 := 14) (L1 := [some (.ref 123), some (.int (Int32.ofNat t)), some (.int (Int32.ofNat i1))]) (st1 := [.int (a1 123 11), .int (Int32.ofNat i1)]) (s1 := a1) rfl ?_
    refine UP.icF rfl (by rw [(g1 123 11 rfl)]; exact ge_F hi1) ?_
    refine UP.stp 3 (i1 := 18) (L1 := [some (.ref 123), some (.int (Int32.ofNat t)), some (.int (Int32.ofNat i1))]) (st1 := [.int (Int32.ofNat i1), .ref 131]) (s1 := a1) rfl ?_
    refine UP.ald (e := i1) rfl rfl (by omega) ?_
    show UP m_X7_befalls 19 [some (.ref 123), some (.int (Int32.ofNat t)), some (.int (Int32.ofNat i1))] [.int (a1 131 i1)] a1 (Qv (F_befalls s t))
    refine UP.stp 1 (i1 := 20) (L1 := [some (.ref 123), some (.int (Int32.ofNat t)), some (.int (Int32.ofNat i1))]) (st1 := [.int (Int32.ofNat t), .int (a1 131 i1)]) (s1 := a1) rfl ?_
    refine mrg (m_cmp .ne (a1 131 i1) (Int32.ofNat t)) a1 (bif m_cmp .ne (F_isIn a1 (a1 123 17) (Int32.ofNat i1)) 0 then a1 else (uset (uset (uset a1 123 25 ((a1 123 25) ||| (bif m_cmp .ne (a1 130 i1) 0 then (0 : Int32) else 1 <<< ((a1 132 i1) &&& 31)))) 123 26 ((a1 123 26) + (bif m_cmp .ne (a1 130 i1) 1 then (0 : Int32) else (bif m_cmp .ne ((a1 132 i1) - (a1 132 i1) / 2 * 2) 1 then (-2 : Int32) else (2 : Int32))))) 123 27 ((a1 123 27) + (bif m_cmp .ne (a1 130 i1) 2 then (0 : Int32) else (3 : Int32))))) (fun v11 : SG => UP m_X7_befalls 82 [some (.ref 123), some (.int (Int32.ofNat t)), some (.int (Int32.ofNat i1))] [] v11 (Qv (F_befalls s t))) (fun cc kk => ?_) (fun cc kk => ?_) (fun v11 e11 => ?_)
    · skip
      refine UP.icT rfl cc ?_
      exact kk
    · skip
      refine UP.icF rfl cc ?_
      refine UP.stp 3 (i1 := 24) (L1 := [some (.ref 123), some (.int (Int32.ofNat t)), some (.int (Int32.ofNat i1))]) (st1 := [.int (Int32.ofNat i1), .int (a1 123 17)]) (s1 := a1) rfl ?_
      refine UP.cI (M1 := m_X7_isIn) (as := [.int (a1 123 17), .int (Int32.ofNat i1)]) (rest := []) (T := F_isIn a1 (a1 123 17) (Int32.ofNat i1)) rfl rfl (ux_isIn a1 (a1 123 17) (Int32.ofNat i1)) ?_
      refine mrg (m_cmp .ne (F_isIn a1 (a1 123 17) (Int32.ofNat i1)) 0) a1 (uset (uset (uset a1 123 25 ((a1 123 25) ||| (bif m_cmp .ne (a1 130 i1) 0 then (0 : Int32) else 1 <<< ((a1 132 i1) &&& 31)))) 123 26 ((a1 123 26) + (bif m_cmp .ne (a1 130 i1) 1 then (0 : Int32) else (bif m_cmp .ne ((a1 132 i1) - (a1 132 i1) / 2 * 2) 1 then (-2 : Int32) else (2 : Int32))))) 123 27 ((a1 123 27) + (bif m_cmp .ne (a1 130 i1) 2 then (0 : Int32) else (3 : Int32)))) (fun v10 : SG => UP m_X7_befalls 82 [some (.ref 123), some (.int (Int32.ofNat t)), some (.int (Int32.ofNat i1))] [] v10 (Qv (F_befalls s t))) (fun cc kk => ?_) (fun cc kk => ?_) (fun v10 e10 => ?_)
      · skip
        refine UP.ifT rfl cc ?_
        exact kk
      · skip
        refine UP.ifF rfl cc ?_
        refine UP.stp 6 (i1 := 32) (L1 := [some (.ref 123), some (.int (Int32.ofNat t)), some (.int (Int32.ofNat i1))]) (st1 := [.int (Int32.ofNat i1), .ref 130, .int (a1 123 25), .ref 123]) (s1 := a1) rfl ?_
        refine UP.ald (e := i1) rfl rfl (by omega) ?_
        show UP m_X7_befalls 33 [some (.ref 123), some (.int (Int32.ofNat t)), some (.int (Int32.ofNat i1))] [.int (a1 130 i1), .int (a1 123 25), .ref 123] a1 (Qv (F_befalls s t))
        refine mrg (m_cmp .ne (a1 130 i1) 0) (0 : Int32) (1 <<< ((a1 132 i1) &&& 31)) (fun v3 : Int32 => UP m_X7_befalls 42 [some (.ref 123), some (.int (Int32.ofNat t)), some (.int (Int32.ofNat i1))] [.int v3, .int (a1 123 25), .ref 123] a1 (Qv (F_befalls s t))) (fun cc kk => ?_) (fun cc kk => ?_) (fun v3 e3 => ?_)
        · skip
          refine UP.ifT rfl cc ?_
          refine UP.stp 1 (i1 := 42) (L1 := [some (.ref 123), some (.int (Int32.ofNat t)), some (.int (Int32.ofNat i1))]) (st1 := [.int 0, .int (a1 123 25), .ref 123]) (s1 := a1) rfl ?_
          exact kk
        · skip
          refine UP.ifF rfl cc ?_
          refine UP.stp 4 (i1 := 38) (L1 := [some (.ref 123), some (.int (Int32.ofNat t)), some (.int (Int32.ofNat i1))]) (st1 := [.int (Int32.ofNat i1), .ref 132, .int 1, .int (a1 123 25), .ref 123]) (s1 := a1) rfl ?_
          refine UP.ald (e := i1) rfl rfl (by omega) ?_
          show UP m_X7_befalls 39 [some (.ref 123), some (.int (Int32.ofNat t)), some (.int (Int32.ofNat i1))] [.int (a1 132 i1), .int 1, .int (a1 123 25), .ref 123] a1 (Qv (F_befalls s t))
          refine UP.stp 2 (i1 := 42) (L1 := [some (.ref 123), some (.int (Int32.ofNat t)), some (.int (Int32.ofNat i1))]) (st1 := [.int (1 <<< ((a1 132 i1) &&& 31)), .int (a1 123 25), .ref 123]) (s1 := a1) rfl ?_
          exact kk
        refine UP.stp 1 (i1 := 43) (L1 := [some (.ref 123), some (.int (Int32.ofNat t)), some (.int (Int32.ofNat i1))]) (st1 := [.int ((a1 123 25) ||| v3), .ref 123]) (s1 := a1) rfl ?_
        refine nm (G := fun v4 => UP m_X7_befalls 43 [some (.ref 123), some (.int (Int32.ofNat t)), some (.int (Int32.ofNat i1))] [.int v4, .ref 123] a1 (Qv (F_befalls s t))) ((a1 123 25) ||| v3) (fun v4 e4 => ?_)
        refine UP.stp 7 (i1 := 50) (L1 := [some (.ref 123), some (.int (Int32.ofNat t)), some (.int (Int32.ofNat i1))]) (st1 := [.int (Int32.ofNat i1), .ref 130, .int (a1 123 26), .ref 123]) (s1 := (uset a1 123 25 v4)) rfl ?_
        refine UP.ald (e := i1) rfl rfl (by omega) ?_
        show UP m_X7_befalls 51 [some (.ref 123), some (.int (Int32.ofNat t)), some (.int (Int32.ofNat i1))] [.int (a1 130 i1), .int (a1 123 26), .ref 123] (uset a1 123 25 v4) (Qv (F_befalls s t))
        refine UP.stp 1 (i1 := 52) (L1 := [some (.ref 123), some (.int (Int32.ofNat t)), some (.int (Int32.ofNat i1))]) (st1 := [.int 1, .int (a1 130 i1), .int (a1 123 26), .ref 123]) (s1 := (uset a1 123 25 v4)) rfl ?_
        refine mrg (m_cmp .ne (a1 130 i1) 1) (0 : Int32) (bif m_cmp .ne ((a1 132 i1) - (a1 132 i1) / 2 * 2) 1 then (-2 : Int32) else (2 : Int32)) (fun v6 : Int32 => UP m_X7_befalls 66 [some (.ref 123), some (.int (Int32.ofNat t)), some (.int (Int32.ofNat i1))] [.int v6, .int (a1 123 26), .ref 123] (uset a1 123 25 v4) (Qv (F_befalls s t))) (fun cc kk => ?_) (fun cc kk => ?_) (fun v6 e6 => ?_)
        · skip
          refine UP.icT rfl cc ?_
          refine UP.stp 1 (i1 := 66) (L1 := [some (.ref 123), some (.int (Int32.ofNat t)), some (.int (Int32.ofNat i1))]) (st1 := [.int 0, .int (a1 123 26), .ref 123]) (s1 := (uset a1 123 25 v4)) rfl ?_
          exact kk
        · skip
          refine UP.icF rfl cc ?_
          refine UP.stp 3 (i1 := 56) (L1 := [some (.ref 123), some (.int (Int32.ofNat t)), some (.int (Int32.ofNat i1))]) (st1 := [.int (Int32.ofNat i1), .ref 132, .int (a1 123 26), .ref 123]) (s1 := (uset a1 123 25 v4)) rfl ?_
          refine UP.ald (e := i1) rfl rfl (by omega) ?_
          show UP m_X7_befalls 57 [some (.ref 123), some (.int (Int32.ofNat t)), some (.int (Int32.ofNat i1))] [.int (a1 132 i1), .int (a1 123 26), .ref 123] (uset a1 123 25 v4) (Qv (F_befalls s t))
          refine UP.stp 3 (i1 := 60) (L1 := [some (.ref 123), some (.int (Int32.ofNat t)), some (.int (Int32.ofNat i1))]) (st1 := [.int 1, .int ((a1 132 i1) - (a1 132 i1) / 2 * 2), .int (a1 123 26), .ref 123]) (s1 := (uset a1 123 25 v4)) rfl ?_
          refine mrg (m_cmp .ne ((a1 132 i1) - (a1 132 i1) / 2 * 2) 1) (-2 : Int32) (2 : Int32) (fun v5 : Int32 => UP m_X7_befalls 66 [some (.ref 123), some (.int (Int32.ofNat t)), some (.int (Int32.ofNat i1))] [.int v5, .int (a1 123 26), .ref 123] (uset a1 123 25 v4) (Qv (F_befalls s t))) (fun cc kk => ?_) (fun cc kk => ?_) (fun v5 e5 => ?_)
          · skip
            refine UP.icT rfl cc ?_
            refine UP.stp 2 (i1 := 66) (L1 := [some (.ref 123), some (.int (Int32.ofNat t)), some (.int (Int32.ofNat i1))]) (st1 := [.int (-2), .int (a1 123 26), .ref 123]) (s1 := (uset a1 123 25 v4)) rfl ?_
            exact kk
          · skip
            refine UP.icF rfl cc ?_
            refine UP.stp 2 (i1 := 66) (L1 := [some (.ref 123), some (.int (Int32.ofNat t)), some (.int (Int32.ofNat i1))]) (st1 := [.int 2, .int (a1 123 26), .ref 123]) (s1 := (uset a1 123 25 v4)) rfl ?_
            exact kk
          subst e5
          exact kk
        refine UP.stp 1 (i1 := 67) (L1 := [some (.ref 123), some (.int (Int32.ofNat t)), some (.int (Int32.ofNat i1))]) (st1 := [.int ((a1 123 26) + v6), .ref 123]) (s1 := (uset a1 123 25 v4)) rfl ?_
        refine nm (G := fun v7 => UP m_X7_befalls 67 [some (.ref 123), some (.int (Int32.ofNat t)), some (.int (Int32.ofNat i1))] [.int v7, .ref 123] (uset a1 123 25 v4) (Qv (F_befalls s t))) ((a1 123 26) + v6) (fun v7 e7 => ?_)
        refine UP.stp 7 (i1 := 74) (L1 := [some (.ref 123), some (.int (Int32.ofNat t)), some (.int (Int32.ofNat i1))]) (st1 := [.int (Int32.ofNat i1), .ref 130, .int (a1 123 27), .ref 123]) (s1 := (uset (uset a1 123 25 v4) 123 26 v7)) rfl ?_
        refine UP.ald (e := i1) rfl rfl (by omega) ?_
        show UP m_X7_befalls 75 [some (.ref 123), some (.int (Int32.ofNat t)), some (.int (Int32.ofNat i1))] [.int (a1 130 i1), .int (a1 123 27), .ref 123] (uset (uset a1 123 25 v4) 123 26 v7) (Qv (F_befalls s t))
        refine UP.stp 1 (i1 := 76) (L1 := [some (.ref 123), some (.int (Int32.ofNat t)), some (.int (Int32.ofNat i1))]) (st1 := [.int 2, .int (a1 130 i1), .int (a1 123 27), .ref 123]) (s1 := (uset (uset a1 123 25 v4) 123 26 v7)) rfl ?_
        refine mrg (m_cmp .ne (a1 130 i1) 2) (0 : Int32) (3 : Int32) (fun v8 : Int32 => UP m_X7_befalls 80 [some (.ref 123), some (.int (Int32.ofNat t)), some (.int (Int32.ofNat i1))] [.int v8, .int (a1 123 27), .ref 123] (uset (uset a1 123 25 v4) 123 26 v7) (Qv (F_befalls s t))) (fun cc kk => ?_) (fun cc kk => ?_) (fun v8 e8 => ?_)
        · skip
          refine UP.icT rfl cc ?_
          refine UP.stp 1 (i1 := 80) (L1 := [some (.ref 123), some (.int (Int32.ofNat t)), some (.int (Int32.ofNat i1))]) (st1 := [.int 0, .int (a1 123 27), .ref 123]) (s1 := (uset (uset a1 123 25 v4) 123 26 v7)) rfl ?_
          exact kk
        · skip
          refine UP.icF rfl cc ?_
          refine UP.stp 2 (i1 := 80) (L1 := [some (.ref 123), some (.int (Int32.ofNat t)), some (.int (Int32.ofNat i1))]) (st1 := [.int 3, .int (a1 123 27), .ref 123]) (s1 := (uset (uset a1 123 25 v4) 123 26 v7)) rfl ?_
          exact kk
        refine UP.stp 1 (i1 := 81) (L1 := [some (.ref 123), some (.int (Int32.ofNat t)), some (.int (Int32.ofNat i1))]) (st1 := [.int ((a1 123 27) + v8), .ref 123]) (s1 := (uset (uset a1 123 25 v4) 123 26 v7)) rfl ?_
        refine nm (G := fun v9 => UP m_X7_befalls 81 [some (.ref 123), some (.int (Int32.ofNat t)), some (.int (Int32.ofNat i1))] [.int v9, .ref 123] (uset (uset a1 123 25 v4) 123 26 v7) (Qv (F_befalls s t))) ((a1 123 27) + v8) (fun v9 e9 => ?_)
        refine UP.stp 1 (i1 := 82) (L1 := [some (.ref 123), some (.int (Int32.ofNat t)), some (.int (Int32.ofNat i1))]) (st1 := []) (s1 := (uset (uset (uset a1 123 25 v4) 123 26 v7) 123 27 v9)) rfl ?_
        subst e9 e8 e7 e6 e4 e3
        exact kk
      subst e10
      exact kk
    refine UP.stp 2 (i1 := 11) (L1 := [some (.ref 123), some (.int (Int32.ofNat t)), some (.int ((Int32.ofNat i1) + 1))]) (st1 := []) (s1 := v11) rfl ?_
    subst e11
    rw [ofn_s]
    exact kk
  refine UP.stp 3 (i1 := 14) (L1 := [some (.ref 123), some (.int (Int32.ofNat t)), some (.int (Int32.ofNat (((uset (uset (uset s 123 25 0) 123 26 0) 123 27 0) 123 11).toNatClampNeg)))]) (st1 := [.int (z1 123 11), .int (Int32.ofNat (((uset (uset (uset s 123 25 0) 123 26 0) 123 27 0) 123 11).toNatClampNeg))]) (s1 := z1) rfl ?_
  refine UP.icT rfl (by rw [(g1 123 11 rfl)]; exact ge_T _) ?_
  exact UP.ret (r := none) rfl ⟨by subst e1; rfl, by subst e1; rfl⟩
def W_pullsOne : List (Nat × Nat × Option Nat) := [(136, 138, none), (143, 143, none)]
def F_pullsOne (s : SG) (t : Nat) (k : Nat) : SG := let v1 := bif m_cmp .ge (s 137 k) 6 then (0 : Int32) else (1 : Int32); let v2 := s 127 k; let v6 := bif m_cmp .ne (s 126 k) 1 then (bif m_cmp .ne (s 126 k) 2 then (0 : Int32) else (bif m_cmp .eq v1 0 then (1 : Int32) else (-1 : Int32))) else (bif m_cmp .eq v1 0 then (-1 : Int32) else (2 : Int32)); let v7 := v2 + v6; let v8 := (s 137 k) + 1; let v9 := (s 138 k) + v7; let v10 := (s 136 (((s 135 k) - (s 135 k) / 2 * 2).toNatClampNeg)) + v7; (uset (uset (uset (uset s 143 (8 * t + k) v7) 137 k v8) 138 k v9) 136 (((s 135 k) - (s 135 k) / 2 * 2).toNatClampNeg) v10)
theorem fr_pullsOne (s : SG) (t : Nat) (k : Nat)  : Fr W_pullsOne s (F_pullsOne s t k) := (Fr.uset (by rfl) (Fr.uset (by rfl) (Fr.uset (by rfl) (Fr.uset (by rfl) (Fr.rf _ _)))))
theorem ux_pullsOne (s : SG) (t : Nat) (k : Nat) (ht : t < 24) (hk : k < 2147483648) : UP m_X7_pullsOne 0 (m_ent 5 [.ref 123, .int (Int32.ofNat t), .int (Int32.ofNat k)]) [] s (Qv (F_pullsOne s t k)) := by
  refine UP.stp 3 (i1 := 3) (L1 := [some (.ref 123), some (.int (Int32.ofNat t)), some (.int (Int32.ofNat k)), none, none]) (st1 := [.int (Int32.ofNat k), .ref 137]) (s1 := s) rfl ?_
  refine UP.ald (e := k) rfl rfl (by omega) ?_
  show UP m_X7_pullsOne 4 [some (.ref 123), some (.int (Int32.ofNat t)), some (.int (Int32.ofNat k)), none, none] [.int (s 137 k)] s (Qv (F_pullsOne s t k))
  refine UP.stp 1 (i1 := 5) (L1 := [some (.ref 123), some (.int (Int32.ofNat t)), some (.int (Int32.ofNat k)), none, none]) (st1 := [.int 6, .int (s 137 k)]) (s1 := s) rfl ?_
  refine mrg (m_cmp .ge (s 137 k) 6) (0 : Int32) (1 : Int32) (fun v1 : Int32 => UP m_X7_pullsOne 9 [some (.ref 123), some (.int (Int32.ofNat t)), some (.int (Int32.ofNat k)), none, none] [.int v1] s (Qv (F_pullsOne s t k))) (fun cc kk => ?_) (fun cc kk => ?_) (fun v1 e1 => ?_)
  · skip
    refine UP.icT rfl cc ?_
    refine UP.stp 1 (i1 := 9) (L1 := [some (.ref 123), some (.int (Int32.ofNat t)), some (.int (Int32.ofNat k)), none, none]) (st1 := [.int 0]) (s1 := s) rfl ?_
    exact kk
  · skip
    refine UP.icF rfl cc ?_
    refine UP.stp 2 (i1 := 9) (L1 := [some (.ref 123), some (.int (Int32.ofNat t)), some (.int (Int32.ofNat k)), none, none]) (st1 := [.int 1]) (s1 := s) rfl ?_
    exact kk
  refine UP.stp 4 (i1 := 13) (L1 := [some (.ref 123), some (.int (Int32.ofNat t)), some (.int (Int32.ofNat k)), some (.int v1), none]) (st1 := [.int (Int32.ofNat k), .ref 127]) (s1 := s) rfl ?_
  refine UP.ald (e := k) rfl rfl (by omega) ?_
  show UP m_X7_pullsOne 14 [some (.ref 123), some (.int (Int32.ofNat t)), some (.int (Int32.ofNat k)), some (.int v1), none] [.int (s 127 k)] s (Qv (F_pullsOne s t k))
  refine nm (G := fun v2 => UP m_X7_pullsOne 14 [some (.ref 123), some (.int (Int32.ofNat t)), some (.int (Int32.ofNat k)), some (.int v1), none] [.int v2] s (Qv (F_pullsOne s t k))) (s 127 k) (fun v2 e2 => ?_)
  refine UP.stp 5 (i1 := 19) (L1 := [some (.ref 123), some (.int (Int32.ofNat t)), some (.int (Int32.ofNat k)), some (.int v1), some (.int v2)]) (st1 := [.int (Int32.ofNat k), .ref 126, .int v2]) (s1 := s) rfl ?_
  refine UP.ald (e := k) rfl rfl (by omega) ?_
  show UP m_X7_pullsOne 20 [some (.ref 123), some (.int (Int32.ofNat t)), some (.int (Int32.ofNat k)), some (.int v1), some (.int v2)] [.int (s 126 k), .int v2] s (Qv (F_pullsOne s t k))
  refine UP.stp 1 (i1 := 21) (L1 := [some (.ref 123), some (.int (Int32.ofNat t)), some (.int (Int32.ofNat k)), some (.int v1), some (.int v2)]) (st1 := [.int 1, .int (s 126 k), .int v2]) (s1 := s) rfl ?_
  refine mrg (m_cmp .ne (s 126 k) 1) (bif m_cmp .ne (s 126 k) 2 then (0 : Int32) else (bif m_cmp .eq v1 0 then (1 : Int32) else (-1 : Int32))) (bif m_cmp .eq v1 0 then (-1 : Int32) else (2 : Int32)) (fun v6 : Int32 => UP m_X7_pullsOne 41 [some (.ref 123), some (.int (Int32.ofNat t)), some (.int (Int32.ofNat k)), some (.int v1), some (.int v2)] [.int v6, .int v2] s (Qv (F_pullsOne s t k))) (fun cc kk => ?_) (fun cc kk => ?_) (fun v6 e6 => ?_)
  · skip
    refine UP.icT rfl cc ?_
    refine UP.stp 3 (i1 := 31) (L1 := [some (.ref 123), some (.int (Int32.ofNat t)), some (.int (Int32.ofNat k)), some (.int v1), some (.int v2)]) (st1 := [.int (Int32.ofNat k), .ref 126, .int v2]) (s1 := s) rfl ?_
    refine UP.ald (e := k) rfl rfl (by omega) ?_
    show UP m_X7_pullsOne 32 [some (.ref 123), some (.int (Int32.ofNat t)), some (.int (Int32.ofNat k)), some (.int v1), some (.int v2)] [.int (s 126 k), .int v2] s (Qv (F_pullsOne s t k))
    refine UP.stp 1 (i1 := 33) (L1 := [some (.ref 123), some (.int (Int32.ofNat t)), some (.int (Int32.ofNat k)), some (.int v1), some (.int v2)]) (st1 := [.int 2, .int (s 126 k), .int v2]) (s1 := s) rfl ?_
    refine mrg (m_cmp .ne (s 126 k) 2) (0 : Int32) (bif m_cmp .eq v1 0 then (1 : Int32) else (-1 : Int32)) (fun v4 : Int32 => UP m_X7_pullsOne 41 [some (.ref 123), some (.int (Int32.ofNat t)), some (.int (Int32.ofNat k)), some (.int v1), some (.int v2)] [.int v4, .int v2] s (Qv (F_pullsOne s t k))) (fun cc kk => ?_) (fun cc kk => ?_) (fun v4 e4 => ?_)
    · skip
      refine UP.icT rfl cc ?_
      refine UP.stp 1 (i1 := 41) (L1 := [some (.ref 123), some (.int (Int32.ofNat t)), some (.int (Int32.ofNat k)), some (.int v1), some (.int v2)]) (st1 := [.int 0, .int v2]) (s1 := s) rfl ?_
      exact kk
    · skip
      refine UP.icF rfl cc ?_
      refine UP.stp 1 (i1 := 35) (L1 := [some (.ref 123), some (.int (Int32.ofNat t)), some (.int (Int32.ofNat k)), some (.int v1), some (.int v2)]) (st1 := [.int v1, .int v2]) (s1 := s) rfl ?_
      refine mrg (m_cmp .eq v1 0) (1 : Int32) (-1 : Int32) (fun v3 : Int32 => UP m_X7_pullsOne 41 [some (.ref 123), some (.int (Int32.ofNat t)), some (.int (Int32.ofNat k)), some (.int v1), some (.int v2)] [.int v3, .int v2] s (Qv (F_pullsOne s t k))) (fun cc kk => ?_) (fun cc kk => ?_) (fun v3 e3 => ?_)
      · skip
        refine UP.ifT rfl cc ?_
        refine UP.stp 2 (i1 := 41) (L1 := [some (.ref 123), some (.int (Int32.ofNat t)), some (.int (Int32.ofNat k)), some (.int v1), some (.int v2)]) (st1 := [.int 1, .int v2]) (s1 := s) rfl ?_
        exact kk
      · skip
        refine UP.ifF rfl cc ?_
        refine UP.stp 2 (i1 := 41) (L1 := [some (.ref 123), some (.int (Int32.ofNat t)), some (.int (Int32.ofNat k)), some (.int v1), some (.int v2)]) (st1 := [.int (-1), .int v2]) (s1 := s) rfl ?_
        exact kk
      subst e3
      exact kk
    subst e4
    exact kk
  · skip
    refine UP.icF rfl cc ?_
    refine UP.stp 1 (i1 := 23) (L1 := [some (.ref 123), some (.int (Int32.ofNat t)), some (.int (Int32.ofNat k)), some (.int v1), some (.int v2)]) (st1 := [.int v1, .int v2]) (s1 := s) rfl ?_
    refine mrg (m_cmp .eq v1 0) (-1 : Int32) (2 : Int32) (fun v5 : Int32 => UP m_X7_pullsOne 41 [some (.ref 123), some (.int (Int32.ofNat t)), some (.int (Int32.ofNat k)), some (.int v1), some (.int v2)] [.int v5, .int v2] s (Qv (F_pullsOne s t k))) (fun cc kk => ?_) (fun cc kk => ?_) (fun v5 e5 => ?_)
    · skip
      refine UP.ifT rfl cc ?_
      refine UP.stp 2 (i1 := 41) (L1 := [some (.ref 123), some (.int (Int32.ofNat t)), some (.int (Int32.ofNat k)), some (.int v1), some (.int v2)]) (st1 := [.int (-1), .int v2]) (s1 := s) rfl ?_
      exact kk
    · skip
      refine UP.ifF rfl cc ?_
      refine UP.stp 2 (i1 := 41) (L1 := [some (.ref 123), some (.int (Int32.ofNat t)), some (.int (Int32.ofNat k)), some (.int v1), some (.int v2)]) (st1 := [.int 2, .int v2]) (s1 := s) rfl ?_
      exact kk
    subst e5
    exact kk
  refine UP.stp 1 (i1 := 42) (L1 := [some (.ref 123), some (.int (Int32.ofNat t)), some (.int (Int32.ofNat k)), some (.int v1), some (.int v2)]) (st1 := [.int (v2 + v6)]) (s1 := s) rfl ?_
  refine nm (G := fun v7 => UP m_X7_pullsOne 42 [some (.ref 123), some (.int (Int32.ofNat t)), some (.int (Int32.ofNat k)), some (.int v1), some (.int v2)] [.int v7] s (Qv (F_pullsOne s t k))) (v2 + v6) (fun v7 e7 => ?_)
  refine UP.stp 9 (i1 := 51) (L1 := [some (.ref 123), some (.int (Int32.ofNat t)), some (.int (Int32.ofNat k)), some (.int v1), some (.int v7)]) (st1 := [.int v7, .int ((8 * (Int32.ofNat t)) + (Int32.ofNat k)), .ref 143]) (s1 := s) rfl ?_
  refine UP.ast (e := 8 * t + k) rfl (ofn_add (ofn_mul rfl rfl) rfl) (by omega) ?_
  show UP m_X7_pullsOne 52 [some (.ref 123), some (.int (Int32.ofNat t)), some (.int (Int32.ofNat k)), some (.int v1), some (.int v7)] [] (uset s 143 (8 * t + k) v7) (Qv (F_pullsOne s t k))
  refine UP.stp 4 (i1 := 56) (L1 := [some (.ref 123), some (.int (Int32.ofNat t)), some (.int (Int32.ofNat k)), some (.int v1), some (.int v7)]) (st1 := [.int (Int32.ofNat k), .ref 137, .int (Int32.ofNat k), .ref 137]) (s1 := (uset s 143 (8 * t + k) v7)) rfl ?_
  refine UP.ald (e := k) rfl rfl (by omega) ?_
  show UP m_X7_pullsOne 57 [some (.ref 123), some (.int (Int32.ofNat t)), some (.int (Int32.ofNat k)), some (.int v1), some (.int v7)] [.int (s 137 k), .int (Int32.ofNat k), .ref 137] (uset s 143 (8 * t + k) v7) (Qv (F_pullsOne s t k))
  refine UP.stp 2 (i1 := 59) (L1 := [some (.ref 123), some (.int (Int32.ofNat t)), some (.int (Int32.ofNat k)), some (.int v1), some (.int v7)]) (st1 := [.int ((s 137 k) + 1), .int (Int32.ofNat k), .ref 137]) (s1 := (uset s 143 (8 * t + k) v7)) rfl ?_
  refine nm (G := fun v8 => UP m_X7_pullsOne 59 [some (.ref 123), some (.int (Int32.ofNat t)), some (.int (Int32.ofNat k)), some (.int v1), some (.int v7)] [.int v8, .int (Int32.ofNat k), .ref 137] (uset s 143 (8 * t + k) v7) (Qv (F_pullsOne s t k))) ((s 137 k) + 1) (fun v8 e8 => ?_)
  refine UP.ast (e := k) rfl rfl (by omega) ?_
  show UP m_X7_pullsOne 60 [some (.ref 123), some (.int (Int32.ofNat t)), some (.int (Int32.ofNat k)), some (.int v1), some (.int v7)] [] (uset (uset s 143 (8 * t + k) v7) 137 k v8) (Qv (F_pullsOne s t k))
  refine UP.stp 4 (i1 := 64) (L1 := [some (.ref 123), some (.int (Int32.ofNat t)), some (.int (Int32.ofNat k)), some (.int v1), some (.int v7)]) (st1 := [.int (Int32.ofNat k), .ref 138, .int (Int32.ofNat k), .ref 138]) (s1 := (uset (uset s 143 (8 * t + k) v7) 137 k v8)) rfl ?_
  refine UP.ald (e := k) rfl rfl (by omega) ?_
  show UP m_X7_pullsOne 65 [some (.ref 123), some (.int (Int32.ofNat t)), some (.int (Int32.ofNat k)), some (.int v1), some (.int v7)] [.int (s 138 k), .int (Int32.ofNat k), .ref 138] (uset (uset s 143 (8 * t + k) v7) 137 k v8) (Qv (F_pullsOne s t k))
  refine UP.stp 2 (i1 := 67) (L1 := [some (.ref 123), some (.int (Int32.ofNat t)), some (.int (Int32.ofNat k)), some (.int v1), some (.int v7)]) (st1 := [.int ((s 138 k) + v7), .int (Int32.ofNat k), .ref 138]) (s1 := (uset (uset s 143 (8 * t + k) v7) 137 k v8)) rfl ?_
  refine nm (G := fun v9 => UP m_X7_pullsOne 67 [some (.ref 123), some (.int (Int32.ofNat t)), some (.int (Int32.ofNat k)), some (.int v1), some (.int v7)] [.int v9, .int (Int32.ofNat k), .ref 138] (uset (uset s 143 (8 * t + k) v7) 137 k v8) (Qv (F_pullsOne s t k))) ((s 138 k) + v7) (fun v9 e9 => ?_)
  refine UP.ast (e := k) rfl rfl (by omega) ?_
  show UP m_X7_pullsOne 68 [some (.ref 123), some (.int (Int32.ofNat t)), some (.int (Int32.ofNat k)), some (.int v1), some (.int v7)] [] (uset (uset (uset s 143 (8 * t + k) v7) 137 k v8) 138 k v9) (Qv (F_pullsOne s t k))
  refine UP.stp 5 (i1 := 73) (L1 := [some (.ref 123), some (.int (Int32.ofNat t)), some (.int (Int32.ofNat k)), some (.int v1), some (.int v7)]) (st1 := [.int (Int32.ofNat k), .ref 135, .ref 136]) (s1 := (uset (uset (uset s 143 (8 * t + k) v7) 137 k v8) 138 k v9)) rfl ?_
  refine UP.ald (e := k) rfl rfl (by omega) ?_
  show UP m_X7_pullsOne 74 [some (.ref 123), some (.int (Int32.ofNat t)), some (.int (Int32.ofNat k)), some (.int v1), some (.int v7)] [.int (s 135 k), .ref 136] (uset (uset (uset s 143 (8 * t + k) v7) 137 k v8) 138 k v9) (Qv (F_pullsOne s t k))
  refine UP.stp 6 (i1 := 80) (L1 := [some (.ref 123), some (.int (Int32.ofNat t)), some (.int (Int32.ofNat k)), some (.int v1), some (.int v7)]) (st1 := [.int ((s 136 (((s 135 k) - (s 135 k) / 2 * 2).toNatClampNeg)) + v7), .int ((s 135 k) - (s 135 k) / 2 * 2), .ref 136]) (s1 := (uset (uset (uset s 143 (8 * t + k) v7) 137 k v8) 138 k v9)) rfl ?_
  refine nm (G := fun v10 => UP m_X7_pullsOne 80 [some (.ref 123), some (.int (Int32.ofNat t)), some (.int (Int32.ofNat k)), some (.int v1), some (.int v7)] [.int v10, .int ((s 135 k) - (s 135 k) / 2 * 2), .ref 136] (uset (uset (uset s 143 (8 * t + k) v7) 137 k v8) 138 k v9) (Qv (F_pullsOne s t k))) ((s 136 (((s 135 k) - (s 135 k) / 2 * 2).toNatClampNeg)) + v7) (fun v10 e10 => ?_)
  refine UP.stp 1 (i1 := 81) (L1 := [some (.ref 123), some (.int (Int32.ofNat t)), some (.int (Int32.ofNat k)), some (.int v1), some (.int v7)]) (st1 := []) (s1 := (uset (uset (uset (uset s 143 (8 * t + k) v7) 137 k v8) 138 k v9) 136 (((s 135 k) - (s 135 k) / 2 * 2).toNatClampNeg) v10)) rfl ?_
  exact UP.ret (r := none) rfl ⟨by subst e10 e9 e8 e7 e6 e2 e1; rfl, by subst e10 e9 e8 e7 e6 e2 e1; rfl⟩
