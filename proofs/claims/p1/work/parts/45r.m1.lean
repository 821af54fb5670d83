/-! the model: a trip, as a function (printed by wip/u/mk_m1.py) -/
def W_isIn : List (Nat × Nat × Option Nat) := []
def F_isIn (s : SG) (b : Int32) (k : Int32) : Int32 := let v1 := bif m_cmp .ne ((b >>> (k &&& 31)) &&& (1 : Int32)) 1 then (0 : Int32) else (1 : Int32); v1
theorem ux_isIn (s : SG) (b : Int32) (k : Int32)  : UP m_X7_isIn 0 (m_ent 2 [.int b, .int k]) [] s (Qi s (F_isIn s b k)) := by
  refine UP.stp 6 (i1 := 6) (L1 := [some (.int b), some (.int k)]) (st1 := [.int 1, .int ((b >>> (k &&& 31)) &&& (1 : Int32))]) (s1 := s) rfl ?_
  refine mrg (m_cmp .ne ((b >>> (k &&& 31)) &&& (1 : Int32)) 1) (0 : Int32) (1 : Int32) (fun v1 : Int32 => UP m_X7_isIn 10 [some (.int b), some (.int k)] [.int v1] s (Qi s (F_isIn s b k))) (fun cc kk => ?_) (fun cc kk => ?_) (fun v1 e1 => ?_)
  · skip
    refine UP.icT rfl cc ?_
    refine UP.stp 1 (i1 := 10) (L1 := [some (.int b), some (.int k)]) (st1 := [.int 0]) (s1 := s) rfl ?_
    exact kk
  · skip
    refine UP.icF rfl cc ?_
    refine UP.stp 2 (i1 := 10) (L1 := [some (.int b), some (.int k)]) (st1 := [.int 1]) (s1 := s) rfl ?_
    exact kk
  exact UP.ret (r := some (.int v1)) rfl ⟨by subst e1; first | (dsimp only [F_isIn]; done) | (dsimp only; done) | rfl, by subst e1; first | (dsimp only [F_isIn]; done) | (dsimp only; done) | rfl⟩
def W_befalls : List (Nat × Nat × Option Nat) := [(123, 123, some 25), (123, 123, some 26), (123, 123, some 27)]
def B_befalls_11 (t : Nat) (i1 : Nat) (a1 : SG) : SG := let v11 := bif m_cmp .ne (a1 131 i1) (Int32.ofNat t) then a1 else (bif m_cmp .ne (F_isIn a1 (a1 123 17) (Int32.ofNat i1)) 0 then a1 else (uset (uset (uset a1 123 25 ((a1 123 25) ||| (bif m_cmp .ne (a1 130 i1) 0 then (0 : Int32) else 1 <<< ((a1 132 i1) &&& 31)))) 123 26 ((a1 123 26) + (bif m_cmp .ne (a1 130 i1) 1 then (0 : Int32) else (bif m_cmp .ne ((a1 132 i1) - (a1 132 i1) / 2 * 2) 1 then (-2 : Int32) else (2 : Int32))))) 123 27 ((a1 123 27) + (bif m_cmp .ne (a1 130 i1) 2 then (0 : Int32) else (3 : Int32))))); v11
theorem fr_B_befalls_11 (t : Nat) (i1 : Nat) (a1 : SG)   : Fr W_befalls a1 ((B_befalls_11 t) i1 a1) := by dsimp only [B_befalls_11]; exact (Fr.bif (b := m_cmp .ne (a1 131 i1) (Int32.ofNat t)) (s1 := a1) (s2 := (bif m_cmp .ne (F_isIn a1 (a1 123 17) (Int32.ofNat i1)) 0 then a1 else (uset (uset (uset a1 123 25 ((a1 123 25) ||| (bif m_cmp .ne (a1 130 i1) 0 then (0 : Int32) else 1 <<< ((a1 132 i1) &&& 31)))) 123 26 ((a1 123 26) + (bif m_cmp .ne (a1 130 i1) 1 then (0 : Int32) else (bif m_cmp .ne ((a1 132 i1) - (a1 132 i1) / 2 * 2) 1 then (-2 : Int32) else (2 : Int32))))) 123 27 ((a1 123 27) + (bif m_cmp .ne (a1 130 i1) 2 then (0 : Int32) else (3 : Int32)))))) (Fr.rf _ _) (Fr.bif (b := m_cmp .ne (F_isIn a1 (a1 123 17) (Int32.ofNat i1)) 0) (s1 := a1) (s2 := (uset (uset (uset a1 123 25 ((a1 123 25) ||| (bif m_cmp .ne (a1 130 i1) 0 then (0 : Int32) else 1 <<< ((a1 132 i1) &&& 31)))) 123 26 ((a1 123 26) + (bif m_cmp .ne (a1 130 i1) 1 then (0 : Int32) else (bif m_cmp .ne ((a1 132 i1) - (a1 132 i1) / 2 * 2) 1 then (-2 : Int32) else (2 : Int32))))) 123 27 ((a1 123 27) + (bif m_cmp .ne (a1 130 i1) 2 then (0 : Int32) else (3 : Int32))))) (Fr.rf _ _) (Fr.uset (s1 := (uset (uset a1 123 25 ((a1 123 25) ||| (bif m_cmp .ne (a1 130 i1) 0 then (0 : Int32) else 1 <<< ((a1 132 i1) &&& 31)))) 123 26 ((a1 123 26) + (bif m_cmp .ne (a1 130 i1) 1 then (0 : Int32) else (bif m_cmp .ne ((a1 132 i1) - (a1 132 i1) / 2 * 2) 1 then (-2 : Int32) else (2 : Int32)))))) (a := 123) (j := 27) (x := ((a1 123 27) + (bif m_cmp .ne (a1 130 i1) 2 then (0 : Int32) else (3 : Int32)))) (by rfl) (Fr.uset (s1 := (uset a1 123 25 ((a1 123 25) ||| (bif m_cmp .ne (a1 130 i1) 0 then (0 : Int32) else 1 <<< ((a1 132 i1) &&& 31))))) (a := 123) (j := 26) (x := ((a1 123 26) + (bif m_cmp .ne (a1 130 i1) 1 then (0 : Int32) else (bif m_cmp .ne ((a1 132 i1) - (a1 132 i1) / 2 * 2) 1 then (-2 : Int32) else (2 : Int32))))) (by rfl) (Fr.uset (s1 := a1) (a := 123) (j := 25) (x := ((a1 123 25) ||| (bif m_cmp .ne (a1 130 i1) 0 then (0 : Int32) else 1 <<< ((a1 132 i1) &&& 31)))) (by rfl) (Fr.rf _ _))))))
def F_befalls (s : SG) (t : Nat) : SG := let z1 := itr (B_befalls_11 t) 0 (((uset (uset (uset s 123 25 0) 123 26 0) 123 27 0) 123 11).toNatClampNeg) (uset (uset (uset s 123 25 0) 123 26 0) 123 27 0); z1
theorem fr_befalls (s : SG) (t : Nat)  : Fr W_befalls s (F_befalls s t) := by dsimp only [F_befalls]; exact (Fr.itr (W := W_befalls) (m := (fun x : SG => x)) (f := (B_befalls_11 t)) (fun ii aa => Fr.wk (W2 := W_befalls) (fr_B_befalls_11 t ii aa ) (by rfl)) (((uset (uset (uset s 123 25 0) 123 26 0) 123 27 0) 123 11).toNatClampNeg) 0 (uset (uset (uset s 123 25 0) 123 26 0) 123 27 0) (Fr.uset (s1 := (uset (uset s 123 25 0) 123 26 0)) (a := 123) (j := 27) (x := 0) (by rfl) (Fr.uset (s1 := (uset s 123 25 0)) (a := 123) (j := 26) (x := 0) (by rfl) (Fr.uset (s1 := s) (a := 123) (j := 25) (x := 0) (by rfl) (Fr.rf _ _)))))
theorem ux_befalls (s : SG) (t : Nat)  : UP m_X7_befalls 0 (m_ent 3 [.ref 123, .int (Int32.ofNat t)]) [] s (Qv (F_befalls s t)) := by
  refine UP.stp 11 (i1 := 11) (L1 := [some (.ref 123), some (.int (Int32.ofNat t)), some (.int 0)]) (st1 := []) (s1 := (uset (uset (uset s 123 25 0) 123 26 0) 123 27 0)) rfl ?_
  refine lp (fun (i1 : Nat) (a1 : SG) => UP m_X7_befalls 11 [some (.ref 123), some (.int (Int32.ofNat t)), some (.int (Int32.ofNat i1))] [] a1 (Qv (F_befalls s t))) (fun (_ : Nat) (a1 : SG) => Fr W_befalls (uset (uset (uset s 123 25 0) 123 26 0) 123 27 0) a1) (B_befalls_11 t) (((uset (uset (uset s 123 25 0) 123 26 0) 123 27 0) 123 11).toNatClampNeg) (fun i1 a1 hi1 g1 => g1.tr (fr_B_befalls_11 t i1 a1 )) (fun i1 a1 hi1 g1 kk => ?_) (((uset (uset (uset s 123 25 0) 123 26 0) 123 27 0) 123 11).toNatClampNeg) (0) (uset (uset (uset s 123 25 0) 123 26 0) 123 27 0) (by  omega) (Fr.rf _ _) (fun z1 e1 g1 => ?_)
  · skip
    have hbi1 := cl_lt ((uset (uset (uset s 123 25 0) 123 26 0) 123 27 0) 123 11)
    refine UP.stp 3 (i1 := 14) (L1 := [some (.ref 123), some (.int (Int32.ofNat t)), some (.int (Int32.ofNat i1))]) (st1 := [.int (a1 123 11), .int (Int32.ofNat i1)]) (s1 := a1) rfl ?_
    refine UP.icF rfl (by rw [(g1 123 11 rfl)]; exact ge_F hi1) ?_
    refine UP.stp 3 (i1 := 18) (L1 := [some (.ref 123), some (.int (Int32.ofNat t)), some (.int (Int32.ofNat i1))]) (st1 := [.int (Int32.ofNat i1), .ref 131]) (s1 := a1) rfl ?_
    refine UP.ald (e := i1) rfl rfl (by omega) ?_
    show UP m_X7_befalls 19 [some (.ref 123), some (.int (Int32.ofNat t)), some (.int (Int32.ofNat i1))] [.int (a1 131 i1)] a1 (Qv (F_befalls s t))
    refine UP.stp 1 (i1 := 20) (L1 := [some (.ref 123), some (.int (Int32.ofNat t)), some (.int (Int32.ofNat i1))]) (st1 := [.int (Int32.ofNat t), .int (a1 131 i1)]) (s1 := a1) rfl ?_
    refine mrg (m_cmp .ne (a1 131 i1) (Int32.ofNat t)) a1 (bif m_cmp .ne (F_isIn a1 (a1 123 17) (Int32.ofNat i1)) 0 then a1 else (uset (uset (uset a1 123 25 ((a1 123 25) ||| (bif m_cmp .ne (a1 130 i1) 0 then (0 : Int32) else 1 <<< ((a1 132 i1) &&& 31)))) 123 26 ((a1 123 26) + (bif m_cmp .ne (a1 130 i1) 1 then (0 : Int32) else (bif m_cmp .ne ((a1 132 i1) - (a1 132 i1) / 2 * 2) 1 then (-2 : Int32) else (2 : Int32))))) 123 27 ((a1 123 27) + (bif m_cmp .ne (a1 130 i1) 2 then (0 : Int32) else (3 : Int32))))) (fun v11 : SG => UP m_X7_befalls 82 [some (.ref 123), some (.int (Int32.ofNat t)), some (.int (Int32.ofNat i1))] [] v11 (Qv (F_befalls s t))) (fun cc kk => ?_) (fun cc kk => ?_) (fun v11 e11 => ?_)
    · skip
      refine UP.icT rfl cc ?_
      exact kk
    · skip
      refine UP.icF rfl cc ?_
      refine UP.stp 3 (i1 := 24) (L1 := [some (.ref 123), some (.int (Int32.ofNat t)), some (.int (Int32.ofNat i1))]) (st1 := [.int (Int32.ofNat i1), .int (a1 123 17)]) (s1 := a1) rfl ?_
      refine UP.cI (M1 := m_X7_isIn) (as := [.int (a1 123 17), .int (Int32.ofNat i1)]) (rest := []) (T := F_isIn a1 (a1 123 17) (Int32.ofNat i1)) rfl rfl (ux_isIn a1 (a1 123 17) (Int32.ofNat i1)) ?_
      refine mrg (m_cmp .ne (F_isIn a1 (a1 123 17) (Int32.ofNat i1)) 0) a1 (uset (uset (uset a1 123 25 ((a1 123 25) ||| (bif m_cmp .ne (a1 130 i1) 0 then (0 : Int32) else 1 <<< ((a1 132 i1) &&& 31)))) 123 26 ((a1 123 26) + (bif m_cmp .ne (a1 130 i1) 1 then (0 : Int32) else (bif m_cmp .ne ((a1 132 i1) - (a1 132 i1) / 2 * 2) 1 then (-2 : Int32) else (2 : Int32))))) 123 27 ((a1 123 27) + (bif m_cmp .ne (a1 130 i1) 2 then (0 : Int32) else (3 : Int32)))) (fun v10 : SG => UP m_X7_befalls 82 [some (.ref 123), some (.int (Int32.ofNat t)), some (.int (Int32.ofNat i1))] [] v10 (Qv (F_befalls s t))) (fun cc kk => ?_) (fun cc kk => ?_) (fun v10 e10 => ?_)
      · skip
        refine UP.ifT rfl cc ?_
        exact kk
      · skip
        refine UP.ifF rfl cc ?_
        refine UP.stp 6 (i1 := 32) (L1 := [some (.ref 123), some (.int (Int32.ofNat t)), some (.int (Int32.ofNat i1))]) (st1 := [.int (Int32.ofNat i1), .ref 130, .int (a1 123 25), .ref 123]) (s1 := a1) rfl ?_
        refine UP.ald (e := i1) rfl rfl (by omega) ?_
        show UP m_X7_befalls 33 [some (.ref 123), some (.int (Int32.ofNat t)), some (.int (Int32.ofNat i1))] [.int (a1 130 i1), .int (a1 123 25), .ref 123] a1 (Qv (F_befalls s t))
        refine mrg (m_cmp .ne (a1 130 i1) 0) (0 : Int32) (1 <<< ((a1 132 i1) &&& 31)) (fun v3 : Int32 => UP m_X7_befalls 42 [some (.ref 123), some (.int (Int32.ofNat t)), some (.int (Int32.ofNat i1))] [.int v3, .int (a1 123 25), .ref 123] a1 (Qv (F_befalls s t))) (fun cc kk => ?_) (fun cc kk => ?_) (fun v3 e3 => ?_)
        · skip
          refine UP.ifT rfl cc ?_
          refine UP.stp 1 (i1 := 42) (L1 := [some (.ref 123), some (.int (Int32.ofNat t)), some (.int (Int32.ofNat i1))]) (st1 := [.int 0, .int (a1 123 25), .ref 123]) (s1 := a1) rfl ?_
          exact kk
        · skip
          refine UP.ifF rfl cc ?_
          refine UP.stp 4 (i1 := 38) (L1 := [some (.ref 123), some (.int (Int32.ofNat t)), some (.int (Int32.ofNat i1))]) (st1 := [.int (Int32.ofNat i1), .ref 132, .int 1, .int (a1 123 25), .ref 123]) (s1 := a1) rfl ?_
          refine UP.ald (e := i1) rfl rfl (by omega) ?_
          show UP m_X7_befalls 39 [some (.ref 123), some (.int (Int32.ofNat t)), some (.int (Int32.ofNat i1))] [.int (a1 132 i1), .int 1, .int (a1 123 25), .ref 123] a1 (Qv (F_befalls s t))
          refine UP.stp 2 (i1 := 42) (L1 := [some (.ref 123), some (.int (Int32.ofNat t)), some (.int (Int32.ofNat i1))]) (st1 := [.int (1 <<< ((a1 132 i1) &&& 31)), .int (a1 123 25), .ref 123]) (s1 := a1) rfl ?_
          exact kk
        refine UP.stp 1 (i1 := 43) (L1 := [some (.ref 123), some (.int (Int32.ofNat t)), some (.int (Int32.ofNat i1))]) (st1 := [.int ((a1 123 25) ||| v3), .ref 123]) (s1 := a1) rfl ?_
        refine nm (G := fun v4 => UP m_X7_befalls 43 [some (.ref 123), some (.int (Int32.ofNat t)), some (.int (Int32.ofNat i1))] [.int v4, .ref 123] a1 (Qv (F_befalls s t))) ((a1 123 25) ||| v3) (fun v4 e4 => ?_)
        refine UP.stp 7 (i1 := 50) (L1 := [some (.ref 123), some (.int (Int32.ofNat t)), some (.int (Int32.ofNat i1))]) (st1 := [.int (Int32.ofNat i1), .ref 130, .int (a1 123 26), .ref 123]) (s1 := (uset a1 123 25 v4)) rfl ?_
        refine UP.ald (e := i1) rfl rfl (by omega) ?_
        show UP m_X7_befalls 51 [some (.ref 123), some (.int (Int32.ofNat t)), some (.int (Int32.ofNat i1))] [.int (a1 130 i1), .int (a1 123 26), .ref 123] (uset a1 123 25 v4) (Qv (F_befalls s t))
        refine UP.stp 1 (i1 := 52) (L1 := [some (.ref 123), some (.int (Int32.ofNat t)), some (.int (Int32.ofNat i1))]) (st1 := [.int 1, .int (a1 130 i1), .int (a1 123 26), .ref 123]) (s1 := (uset a1 123 25 v4)) rfl ?_
        refine mrg (m_cmp .ne (a1 130 i1) 1) (0 : Int32) (bif m_cmp .ne ((a1 132 i1) - (a1 132 i1) / 2 * 2) 1 then (-2 : Int32) else (2 : Int32)) (fun v6 : Int32 => UP m_X7_befalls 66 [some (.ref 123), some (.int (Int32.ofNat t)), some (.int (Int32.ofNat i1))] [.int v6, .int (a1 123 26), .ref 123] (uset a1 123 25 v4) (Qv (F_befalls s t))) (fun cc kk => ?_) (fun cc kk => ?_) (fun v6 e6 => ?_)
        · skip
          refine UP.icT rfl cc ?_
          refine UP.stp 1 (i1 := 66) (L1 := [some (.ref 123), some (.int (Int32.ofNat t)), some (.int (Int32.ofNat i1))]) (st1 := [.int 0, .int (a1 123 26), .ref 123]) (s1 := (uset a1 123 25 v4)) rfl ?_
          exact kk
        · skip
          refine UP.icF rfl cc ?_
          refine UP.stp 3 (i1 := 56) (L1 := [some (.ref 123), some (.int (Int32.ofNat t)), some (.int (Int32.ofNat i1))]) (st1 := [.int (Int32.ofNat i1), .ref 132, .int (a1 123 26), .ref 123]) (s1 := (uset a1 123 25 v4)) rfl ?_
          refine UP.ald (e := i1) rfl rfl (by omega) ?_
          show UP m_X7_befalls 57 [some (.ref 123), some (.int (Int32.ofNat t)), some (.int (Int32.ofNat i1))] [.int (a1 132 i1), .int (a1 123 26), .ref 123] (uset a1 123 25 v4) (Qv (F_befalls s t))
          refine UP.stp 3 (i1 := 60) (L1 := [some (.ref 123), some (.int (Int32.ofNat t)), some (.int (Int32.ofNat i1))]) (st1 := [.int 1, .int ((a1 132 i1) - (a1 132 i1) / 2 * 2), .int (a1 123 26), .ref 123]) (s1 := (uset a1 123 25 v4)) rfl ?_
          refine mrg (m_cmp .ne ((a1 132 i1) - (a1 132 i1) / 2 * 2) 1) (-2 : Int32) (2 : Int32) (fun v5 : Int32 => UP m_X7_befalls 66 [some (.ref 123), some (.int (Int32.ofNat t)), some (.int (Int32.ofNat i1))] [.int v5, .int (a1 123 26), .ref 123] (uset a1 123 25 v4) (Qv (F_befalls s t))) (fun cc kk => ?_) (fun cc kk => ?_) (fun v5 e5 => ?_)
          · skip
            refine UP.icT rfl cc ?_
            refine UP.stp 2 (i1 := 66) (L1 := [some (.ref 123), some (.int (Int32.ofNat t)), some (.int (Int32.ofNat i1))]) (st1 := [.int (-2), .int (a1 123 26), .ref 123]) (s1 := (uset a1 123 25 v4)) rfl ?_
            exact kk
          · skip
            refine UP.icF rfl cc ?_
            refine UP.stp 2 (i1 := 66) (L1 := [some (.ref 123), some (.int (Int32.ofNat t)), some (.int (Int32.ofNat i1))]) (st1 := [.int 2, .int (a1 123 26), .ref 123]) (s1 := (uset a1 123 25 v4)) rfl ?_
            exact kk
          subst e5
          exact kk
        refine UP.stp 1 (i1 := 67) (L1 := [some (.ref 123), some (.int (Int32.ofNat t)), some (.int (Int32.ofNat i1))]) (st1 := [.int ((a1 123 26) + v6), .ref 123]) (s1 := (uset a1 123 25 v4)) rfl ?_
        refine nm (G := fun v7 => UP m_X7_befalls 67 [some (.ref 123), some (.int (Int32.ofNat t)), some (.int (Int32.ofNat i1))] [.int v7, .ref 123] (uset a1 123 25 v4) (Qv (F_befalls s t))) ((a1 123 26) + v6) (fun v7 e7 => ?_)
        refine UP.stp 7 (i1 := 74) (L1 := [some (.ref 123), some (.int (Int32.ofNat t)), some (.int (Int32.ofNat i1))]) (st1 := [.int (Int32.ofNat i1), .ref 130, .int (a1 123 27), .ref 123]) (s1 := (uset (uset a1 123 25 v4) 123 26 v7)) rfl ?_
        refine UP.ald (e := i1) rfl rfl (by omega) ?_
        show UP m_X7_befalls 75 [some (.ref 123), some (.int (Int32.ofNat t)), some (.int (Int32.ofNat i1))] [.int (a1 130 i1), .int (a1 123 27), .ref 123] (uset (uset a1 123 25 v4) 123 26 v7) (Qv (F_befalls s t))
        refine UP.stp 1 (i1 := 76) (L1 := [some (.ref 123), some (.int (Int32.ofNat t)), some (.int (Int32.ofNat i1))]) (st1 := [.int 2, .int (a1 130 i1), .int (a1 123 27), .ref 123]) (s1 := (uset (uset a1 123 25 v4) 123 26 v7)) rfl ?_
        refine mrg (m_cmp .ne (a1 130 i1) 2) (0 : Int32) (3 : Int32) (fun v8 : Int32 => UP m_X7_befalls 80 [some (.ref 123), some (.int (Int32.ofNat t)), some (.int (Int32.ofNat i1))] [.int v8, .int (a1 123 27), .ref 123] (uset (uset a1 123 25 v4) 123 26 v7) (Qv (F_befalls s t))) (fun cc kk => ?_) (fun cc kk => ?_) (fun v8 e8 => ?_)
        · skip
          refine UP.icT rfl cc ?_
          refine UP.stp 1 (i1 := 80) (L1 := [some (.ref 123), some (.int (Int32.ofNat t)), some (.int (Int32.ofNat i1))]) (st1 := [.int 0, .int (a1 123 27), .ref 123]) (s1 := (uset (uset a1 123 25 v4) 123 26 v7)) rfl ?_
          exact kk
        · skip
          refine UP.icF rfl cc ?_
          refine UP.stp 2 (i1 := 80) (L1 := [some (.ref 123), some (.int (Int32.ofNat t)), some (.int (Int32.ofNat i1))]) (st1 := [.int 3, .int (a1 123 27), .ref 123]) (s1 := (uset (uset a1 123 25 v4) 123 26 v7)) rfl ?_
          exact kk
        refine UP.stp 1 (i1 := 81) (L1 := [some (.ref 123), some (.int (Int32.ofNat t)), some (.int (Int32.ofNat i1))]) (st1 := [.int ((a1 123 27) + v8), .ref 123]) (s1 := (uset (uset a1 123 25 v4) 123 26 v7)) rfl ?_
        refine nm (G := fun v9 => UP m_X7_befalls 81 [some (.ref 123), some (.int (Int32.ofNat t)), some (.int (Int32.ofNat i1))] [.int v9, .ref 123] (uset (uset a1 123 25 v4) 123 26 v7) (Qv (F_befalls s t))) ((a1 123 27) + v8) (fun v9 e9 => ?_)
        refine UP.stp 1 (i1 := 82) (L1 := [some (.ref 123), some (.int (Int32.ofNat t)), some (.int (Int32.ofNat i1))]) (st1 := []) (s1 := (uset (uset (uset a1 123 25 v4) 123 26 v7) 123 27 v9)) rfl ?_
        subst e9 e8 e7 e6 e4 e3
        exact kk
      subst e10
      exact kk
    refine UP.stp 2 (i1 := 11) (L1 := [some (.ref 123), some (.int (Int32.ofNat t)), some (.int ((Int32.ofNat i1) + 1))]) (st1 := []) (s1 := v11) rfl ?_
    subst e11
    rw [ofn_s]
    try dsimp only [B_befalls_11] at kk
    exact kk
  refine UP.stp 3 (i1 := 14) (L1 := [some (.ref 123), some (.int (Int32.ofNat t)), some (.int (Int32.ofNat (((uset (uset (uset s 123 25 0) 123 26 0) 123 27 0) 123 11).toNatClampNeg)))]) (st1 := [.int (z1 123 11), .int (Int32.ofNat (((uset (uset (uset s 123 25 0) 123 26 0) 123 27 0) 123 11).toNatClampNeg))]) (s1 := z1) rfl ?_
  refine UP.icT rfl (by rw [(g1 123 11 rfl)]; exact ge_T _) ?_
  exact UP.ret (r := none) rfl ⟨by subst e1; first | (dsimp only [F_befalls]; done) | (dsimp only; done) | rfl, by subst e1; first | (dsimp only [F_befalls]; done) | (dsimp only; done) | rfl⟩
def W_pullsOne : List (Nat × Nat × Option Nat) := [(136, 138, none), (143, 143, none)]
def F_pullsOne (s : SG) (t : Nat) (k : Nat) : SG := let v1 := bif m_cmp .ge (s 137 k) 6 then (0 : Int32) else (1 : Int32); let v2 := s 127 k; let v6 := bif m_cmp .ne (s 126 k) 1 then (bif m_cmp .ne (s 126 k) 2 then (0 : Int32) else (bif m_cmp .eq v1 0 then (1 : Int32) else (-1 : Int32))) else (bif m_cmp .eq v1 0 then (-1 : Int32) else (2 : Int32)); let v7 := v2 + v6; let v8 := (s 137 k) + 1; let v9 := (s 138 k) + v7; let v10 := (s 136 (((s 135 k) - (s 135 k) / 2 * 2).toNatClampNeg)) + v7; (uset (uset (uset (uset s 143 (((8 * (Int32.ofNat t)) + (Int32.ofNat k)).toNatClampNeg) v7) 137 k v8) 138 k v9) 136 (((s 135 k) - (s 135 k) / 2 * 2).toNatClampNeg) v10)
theorem fr_pullsOne (s : SG) (t : Nat) (k : Nat)  : Fr W_pullsOne s (F_pullsOne s t k) := by dsimp only [F_pullsOne]; exact (let v1 : Int32 := bif m_cmp .ge (s 137 k) 6 then (0 : Int32) else (1 : Int32); (let v2 : Int32 := s 127 k; (let v6 : Int32 := bif m_cmp .ne (s 126 k) 1 then (bif m_cmp .ne (s 126 k) 2 then (0 : Int32) else (bif m_cmp .eq v1 0 then (1 : Int32) else (-1 : Int32))) else (bif m_cmp .eq v1 0 then (-1 : Int32) else (2 : Int32)); (let v7 : Int32 := v2 + v6; (let v8 : Int32 := (s 137 k) + 1; (let v9 : Int32 := (s 138 k) + v7; (let v10 : Int32 := (s 136 (((s 135 k) - (s 135 k) / 2 * 2).toNatClampNeg)) + v7; (Fr.uset (s1 := (uset (uset (uset s 143 (((8 * (Int32.ofNat t)) + (Int32.ofNat k)).toNatClampNeg) v7) 137 k v8) 138 k v9)) (a := 136) (j := ((s 135 k) - (s 135 k) / 2 * 2).toNatClampNeg) (x := v10) (by rfl) (Fr.uset (s1 := (uset (uset s 143 (((8 * (Int32.ofNat t)) + (Int32.ofNat k)).toNatClampNeg) v7) 137 k v8)) (a := 138) (j := k) (x := v9) (by rfl) (Fr.uset (s1 := (uset s 143 (((8 * (Int32.ofNat t)) + (Int32.ofNat k)).toNatClampNeg) v7)) (a := 137) (j := k) (x := v8) (by rfl) (Fr.uset (s1 := s) (a := 143) (j := ((8 * (Int32.ofNat t)) + (Int32.ofNat k)).toNatClampNeg) (x := v7) (by rfl) (Fr.rf _ _))))))))))))
theorem ux_pullsOne (s : SG) (t : Nat) (k : Nat) (hk : k < 2147483648) : UP m_X7_pullsOne 0 (m_ent 5 [.ref 123, .int (Int32.ofNat t), .int (Int32.ofNat k)]) [] s (Qv (F_pullsOne s t k)) := by
  refine UP.stp 3 (i1 := 3) (L1 := [some (.ref 123), some (.int (Int32.ofNat t)), some (.int (Int32.ofNat k)), none, none]) (st1 := [.int (Int32.ofNat k), .ref 137]) (s1 := s) rfl ?_
  refine UP.ald (e := k) rfl rfl (by omega) ?_
  show UP m_X7_pullsOne 4 [some (.ref 123), some (.int (Int32.ofNat t)), some (.int (Int32.ofNat k)), none, none] [.int (s 137 k)] s (Qv (F_pullsOne s t k))
  refine UP.stp 1 (i1 := 5) (L1 := [some (.ref 123), some (.int (Int32.ofNat t)), some (.int (Int32.ofNat k)), none, none]) (st1 := [.int 6, .int (s 137 k)]) (s1 := s) rfl ?_
  refine mrg (m_cmp .ge (s 137 k) 6) (0 : Int32) (1 : Int32) (fun v1 : Int32 => UP m_X7_pullsOne 9 [some (.ref 123), some (.int (Int32.ofNat t)), some (.int (Int32.ofNat k)), none, none] [.int v1] s (Qv (F_pullsOne s t k))) (fun cc kk => ?_) (fun cc kk => ?_) (fun v1 e1 => ?_)
  · skip
    refine UP.icT rfl cc ?_
    refine UP.stp 1 (i1 := 9) (L1 := [some (.ref 123), some (.int (Int32.ofNat t)), some (.int (Int32.ofNat k)), none, none]) (st1 := [.int 0]) (s1 := s) rfl ?_
    exact kk
  · skip
    refine UP.icF rfl cc ?_
    refine UP.stp 2 (i1 := 9) (L1 := [some (.ref 123), some (.int (Int32.ofNat t)), some (.int (Int32.ofNat k)), none, none]) (st1 := [.int 1]) (s1 := s) rfl ?_
    exact kk
  refine UP.stp 4 (i1 := 13) (L1 := [some (.ref 123), some (.int (Int32.ofNat t)), some (.int (Int32.ofNat k)), some (.int v1), none]) (st1 := [.int (Int32.ofNat k), .ref 127]) (s1 := s) rfl ?_
  refine UP.ald (e := k) rfl rfl (by omega) ?_
  show UP m_X7_pullsOne 14 [some (.ref 123), some (.int (Int32.ofNat t)), some (.int (Int32.ofNat k)), some (.int v1), none] [.int (s 127 k)] s (Qv (F_pullsOne s t k))
  refine nm (G := fun v2 => UP m_X7_pullsOne 14 [some (.ref 123), some (.int (Int32.ofNat t)), some (.int (Int32.ofNat k)), some (.int v1), none] [.int v2] s (Qv (F_pullsOne s t k))) (s 127 k) (fun v2 e2 => ?_)
  refine UP.stp 5 (i1 := 19) (L1 := [some (.ref 123), some (.int (Int32.ofNat t)), some (.int (Int32.ofNat k)), some (.int v1), some (.int v2)]) (st1 := [.int (Int32.ofNat k), .ref 126, .int v2]) (s1 := s) rfl ?_
  refine UP.ald (e := k) rfl rfl (by omega) ?_
  show UP m_X7_pullsOne 20 [some (.ref 123), some (.int (Int32.ofNat t)), some (.int (Int32.ofNat k)), some (.int v1), some (.int v2)] [.int (s 126 k), .int v2] s (Qv (F_pullsOne s t k))
  refine UP.stp 1 (i1 := 21) (L1 := [some (.ref 123), some (.int (Int32.ofNat t)), some (.int (Int32.ofNat k)), some (.int v1), some (.int v2)]) (st1 := [.int 1, .int (s 126 k), .int v2]) (s1 := s) rfl ?_
  refine mrg (m_cmp .ne (s 126 k) 1) (bif m_cmp .ne (s 126 k) 2 then (0 : Int32) else (bif m_cmp .eq v1 0 then (1 : Int32) else (-1 : Int32))) (bif m_cmp .eq v1 0 then (-1 : Int32) else (2 : Int32)) (fun v6 : Int32 => UP m_X7_pullsOne 41 [some (.ref 123), some (.int (Int32.ofNat t)), some (.int (Int32.ofNat k)), some (.int v1), some (.int v2)] [.int v6, .int v2] s (Qv (F_pullsOne s t k))) (fun cc kk => ?_) (fun cc kk => ?_) (fun v6 e6 => ?_)
  · skip
    refine UP.icT rfl cc ?_
    refine UP.stp 3 (i1 := 31) (L1 := [some (.ref 123), some (.int (Int32.ofNat t)), some (.int (Int32.ofNat k)), some (.int v1), some (.int v2)]) (st1 := [.int (Int32.ofNat k), .ref 126, .int v2]) (s1 := s) rfl ?_
    refine UP.ald (e := k) rfl rfl (by omega) ?_
    show UP m_X7_pullsOne 32 [some (.ref 123), some (.int (Int32.ofNat t)), some (.int (Int32.ofNat k)), some (.int v1), some (.int v2)] [.int (s 126 k), .int v2] s (Qv (F_pullsOne s t k))
    refine UP.stp 1 (i1 := 33) (L1 := [some (.ref 123), some (.int (Int32.ofNat t)), some (.int (Int32.ofNat k)), some (.int v1), some (.int v2)]) (st1 := [.int 2, .int (s 126 k), .int v2]) (s1 := s) rfl ?_
    refine mrg (m_cmp .ne (s 126 k) 2) (0 : Int32) (bif m_cmp .eq v1 0 then (1 : Int32) else (-1 : Int32)) (fun v4 : Int32 => UP m_X7_pullsOne 41 [some (.ref 123), some (.int (Int32.ofNat t)), some (.int (Int32.ofNat k)), some (.int v1), some (.int v2)] [.int v4, .int v2] s (Qv (F_pullsOne s t k))) (fun cc kk => ?_) (fun cc kk => ?_) (fun v4 e4 => ?_)
    · skip
      refine UP.icT rfl cc ?_
      refine UP.stp 1 (i1 := 41) (L1 := [some (.ref 123), some (.int (Int32.ofNat t)), some (.int (Int32.ofNat k)), some (.int v1), some (.int v2)]) (st1 := [.int 0, .int v2]) (s1 := s) rfl ?_
      exact kk
    · skip
      refine UP.icF rfl cc ?_
      refine UP.stp 1 (i1 := 35) (L1 := [some (.ref 123), some (.int (Int32.ofNat t)), some (.int (Int32.ofNat k)), some (.int v1), some (.int v2)]) (st1 := [.int v1, .int v2]) (s1 := s) rfl ?_
      refine mrg (m_cmp .eq v1 0) (1 : Int32) (-1 : Int32) (fun v3 : Int32 => UP m_X7_pullsOne 41 [some (.ref 123), some (.int (Int32.ofNat t)), some (.int (Int32.ofNat k)), some (.int v1), some (.int v2)] [.int v3, .int v2] s (Qv (F_pullsOne s t k))) (fun cc kk => ?_) (fun cc kk => ?_) (fun v3 e3 => ?_)
      · skip
        refine UP.ifT rfl cc ?_
        refine UP.stp 2 (i1 := 41) (L1 := [some (.ref 123), some (.int (Int32.ofNat t)), some (.int (Int32.ofNat k)), some (.int v1), some (.int v2)]) (st1 := [.int 1, .int v2]) (s1 := s) rfl ?_
        exact kk
      · skip
        refine UP.ifF rfl cc ?_
        refine UP.stp 2 (i1 := 41) (L1 := [some (.ref 123), some (.int (Int32.ofNat t)), some (.int (Int32.ofNat k)), some (.int v1), some (.int v2)]) (st1 := [.int (-1), .int v2]) (s1 := s) rfl ?_
        exact kk
      subst e3
      exact kk
    subst e4
    exact kk
  · skip
    refine UP.icF rfl cc ?_
    refine UP.stp 1 (i1 := 23) (L1 := [some (.ref 123), some (.int (Int32.ofNat t)), some (.int (Int32.ofNat k)), some (.int v1), some (.int v2)]) (st1 := [.int v1, .int v2]) (s1 := s) rfl ?_
    refine mrg (m_cmp .eq v1 0) (-1 : Int32) (2 : Int32) (fun v5 : Int32 => UP m_X7_pullsOne 41 [some (.ref 123), some (.int (Int32.ofNat t)), some (.int (Int32.ofNat k)), some (.int v1), some (.int v2)] [.int v5, .int v2] s (Qv (F_pullsOne s t k))) (fun cc kk => ?_) (fun cc kk => ?_) (fun v5 e5 => ?_)
    · skip
      refine UP.ifT rfl cc ?_
      refine UP.stp 2 (i1 := 41) (L1 := [some (.ref 123), some (.int (Int32.ofNat t)), some (.int (Int32.ofNat k)), some (.int v1), some (.int v2)]) (st1 := [.int (-1), .int v2]) (s1 := s) rfl ?_
      exact kk
    · skip
      refine UP.ifF rfl cc ?_
      refine UP.stp 2 (i1 := 41) (L1 := [some (.ref 123), some (.int (Int32.ofNat t)), some (.int (Int32.ofNat k)), some (.int v1), some (.int v2)]) (st1 := [.int 2, .int v2]) (s1 := s) rfl ?_
      exact kk
    subst e5
    exact kk
  refine UP.stp 1 (i1 := 42) (L1 := [some (.ref 123), some (.int (Int32.ofNat t)), some (.int (Int32.ofNat k)), some (.int v1), some (.int v2)]) (st1 := [.int (v2 + v6)]) (s1 := s) rfl ?_
  refine nm (G := fun v7 => UP m_X7_pullsOne 42 [some (.ref 123), some (.int (Int32.ofNat t)), some (.int (Int32.ofNat k)), some (.int v1), some (.int v2)] [.int v7] s (Qv (F_pullsOne s t k))) (v2 + v6) (fun v7 e7 => ?_)
  refine UP.stp 14 (i1 := 56) (L1 := [some (.ref 123), some (.int (Int32.ofNat t)), some (.int (Int32.ofNat k)), some (.int v1), some (.int v7)]) (st1 := [.int (Int32.ofNat k), .ref 137, .int (Int32.ofNat k), .ref 137]) (s1 := (uset s 143 (((8 * (Int32.ofNat t)) + (Int32.ofNat k)).toNatClampNeg) v7)) rfl ?_
  refine UP.ald (e := k) rfl rfl (by omega) ?_
  show UP m_X7_pullsOne 57 [some (.ref 123), some (.int (Int32.ofNat t)), some (.int (Int32.ofNat k)), some (.int v1), some (.int v7)] [.int (s 137 k), .int (Int32.ofNat k), .ref 137] (uset s 143 (((8 * (Int32.ofNat t)) + (Int32.ofNat k)).toNatClampNeg) v7) (Qv (F_pullsOne s t k))
  refine UP.stp 2 (i1 := 59) (L1 := [some (.ref 123), some (.int (Int32.ofNat t)), some (.int (Int32.ofNat k)), some (.int v1), some (.int v7)]) (st1 := [.int ((s 137 k) + 1), .int (Int32.ofNat k), .ref 137]) (s1 := (uset s 143 (((8 * (Int32.ofNat t)) + (Int32.ofNat k)).toNatClampNeg) v7)) rfl ?_
  refine nm (G := fun v8 => UP m_X7_pullsOne 59 [some (.ref 123), some (.int (Int32.ofNat t)), some (.int (Int32.ofNat k)), some (.int v1), some (.int v7)] [.int v8, .int (Int32.ofNat k), .ref 137] (uset s 143 (((8 * (Int32.ofNat t)) + (Int32.ofNat k)).toNatClampNeg) v7) (Qv (F_pullsOne s t k))) ((s 137 k) + 1) (fun v8 e8 => ?_)
  refine UP.ast (e := k) rfl rfl (by omega) ?_
  show UP m_X7_pullsOne 60 [some (.ref 123), some (.int (Int32.ofNat t)), some (.int (Int32.ofNat k)), some (.int v1), some (.int v7)] [] (uset (uset s 143 (((8 * (Int32.ofNat t)) + (Int32.ofNat k)).toNatClampNeg) v7) 137 k v8) (Qv (F_pullsOne s t k))
  refine UP.stp 4 (i1 := 64) (L1 := [some (.ref 123), some (.int (Int32.ofNat t)), some (.int (Int32.ofNat k)), some (.int v1), some (.int v7)]) (st1 := [.int (Int32.ofNat k), .ref 138, .int (Int32.ofNat k), .ref 138]) (s1 := (uset (uset s 143 (((8 * (Int32.ofNat t)) + (Int32.ofNat k)).toNatClampNeg) v7) 137 k v8)) rfl ?_
  refine UP.ald (e := k) rfl rfl (by omega) ?_
  show UP m_X7_pullsOne 65 [some (.ref 123), some (.int (Int32.ofNat t)), some (.int (Int32.ofNat k)), some (.int v1), some (.int v7)] [.int (s 138 k), .int (Int32.ofNat k), .ref 138] (uset (uset s 143 (((8 * (Int32.ofNat t)) + (Int32.ofNat k)).toNatClampNeg) v7) 137 k v8) (Qv (F_pullsOne s t k))
  refine UP.stp 2 (i1 := 67) (L1 := [some (.ref 123), some (.int (Int32.ofNat t)), some (.int (Int32.ofNat k)), some (.int v1), some (.int v7)]) (st1 := [.int ((s 138 k) + v7), .int (Int32.ofNat k), .ref 138]) (s1 := (uset (uset s 143 (((8 * (Int32.ofNat t)) + (Int32.ofNat k)).toNatClampNeg) v7) 137 k v8)) rfl ?_
  refine nm (G := fun v9 => UP m_X7_pullsOne 67 [some (.ref 123), some (.int (Int32.ofNat t)), some (.int (Int32.ofNat k)), some (.int v1), some (.int v7)] [.int v9, .int (Int32.ofNat k), .ref 138] (uset (uset s 143 (((8 * (Int32.ofNat t)) + (Int32.ofNat k)).toNatClampNeg) v7) 137 k v8) (Qv (F_pullsOne s t k))) ((s 138 k) + v7) (fun v9 e9 => ?_)
  refine UP.ast (e := k) rfl rfl (by omega) ?_
  show UP m_X7_pullsOne 68 [some (.ref 123), some (.int (Int32.ofNat t)), some (.int (Int32.ofNat k)), some (.int v1), some (.int v7)] [] (uset (uset (uset s 143 (((8 * (Int32.ofNat t)) + (Int32.ofNat k)).toNatClampNeg) v7) 137 k v8) 138 k v9) (Qv (F_pullsOne s t k))
  refine UP.stp 5 (i1 := 73) (L1 := [some (.ref 123), some (.int (Int32.ofNat t)), some (.int (Int32.ofNat k)), some (.int v1), some (.int v7)]) (st1 := [.int (Int32.ofNat k), .ref 135, .ref 136]) (s1 := (uset (uset (uset s 143 (((8 * (Int32.ofNat t)) + (Int32.ofNat k)).toNatClampNeg) v7) 137 k v8) 138 k v9)) rfl ?_
  refine UP.ald (e := k) rfl rfl (by omega) ?_
  show UP m_X7_pullsOne 74 [some (.ref 123), some (.int (Int32.ofNat t)), some (.int (Int32.ofNat k)), some (.int v1), some (.int v7)] [.int (s 135 k), .ref 136] (uset (uset (uset s 143 (((8 * (Int32.ofNat t)) + (Int32.ofNat k)).toNatClampNeg) v7) 137 k v8) 138 k v9) (Qv (F_pullsOne s t k))
  refine UP.stp 6 (i1 := 80) (L1 := [some (.ref 123), some (.int (Int32.ofNat t)), some (.int (Int32.ofNat k)), some (.int v1), some (.int v7)]) (st1 := [.int ((s 136 (((s 135 k) - (s 135 k) / 2 * 2).toNatClampNeg)) + v7), .int ((s 135 k) - (s 135 k) / 2 * 2), .ref 136]) (s1 := (uset (uset (uset s 143 (((8 * (Int32.ofNat t)) + (Int32.ofNat k)).toNatClampNeg) v7) 137 k v8) 138 k v9)) rfl ?_
  refine nm (G := fun v10 => UP m_X7_pullsOne 80 [some (.ref 123), some (.int (Int32.ofNat t)), some (.int (Int32.ofNat k)), some (.int v1), some (.int v7)] [.int v10, .int ((s 135 k) - (s 135 k) / 2 * 2), .ref 136] (uset (uset (uset s 143 (((8 * (Int32.ofNat t)) + (Int32.ofNat k)).toNatClampNeg) v7) 137 k v8) 138 k v9) (Qv (F_pullsOne s t k))) ((s 136 (((s 135 k) - (s 135 k) / 2 * 2).toNatClampNeg)) + v7) (fun v10 e10 => ?_)
  refine UP.stp 1 (i1 := 81) (L1 := [some (.ref 123), some (.int (Int32.ofNat t)), some (.int (Int32.ofNat k)), some (.int v1), some (.int v7)]) (st1 := []) (s1 := (uset (uset (uset (uset s 143 (((8 * (Int32.ofNat t)) + (Int32.ofNat k)).toNatClampNeg) v7) 137 k v8) 138 k v9) 136 (((s 135 k) - (s 135 k) / 2 * 2).toNatClampNeg) v10)) rfl ?_
  exact UP.ret (r := none) rfl ⟨by subst e10 e9 e8 e7 e6 e2 e1; first | (dsimp only [F_pullsOne]; done) | (dsimp only; done) | rfl, by subst e10 e9 e8 e7 e6 e2 e1; first | (dsimp only [F_pullsOne]; done) | (dsimp only; done) | rfl⟩
def W_goes : List (Nat × Nat × Option Nat) := [(136, 138, none), (142, 143, none), (123, 123, some 19), (123, 123, some 20), (123, 123, some 21), (123, 123, some 22), (123, 123, some 23)]
def B_goes_7 (t : Nat) (v1 : Int32) (i2 : Nat) (a2 : SG) : SG := let v6 := bif m_cmp .le v1 0 then a2 else (bif m_cmp .ne (F_isIn a2 (a2 123 25) (a2 135 i2)) 0 then a2 else (F_pullsOne a2 t i2)); v6
theorem fr_B_goes_7 (t : Nat) (v1 : Int32) (i2 : Nat) (a2 : SG)   : Fr W_goes a2 ((B_goes_7 t v1) i2 a2) := by dsimp only [B_goes_7]; exact (Fr.bif (b := m_cmp .le v1 0) (s1 := a2) (s2 := (bif m_cmp .ne (F_isIn a2 (a2 123 25) (a2 135 i2)) 0 then a2 else (F_pullsOne a2 t i2))) (Fr.rf _ _) (Fr.bif (b := m_cmp .ne (F_isIn a2 (a2 123 25) (a2 135 i2)) 0) (s1 := a2) (s2 := (F_pullsOne a2 t i2)) (Fr.rf _ _) (Fr.tr (s1 := a2) (Fr.rf _ _) (Fr.wk (W2 := W_goes) (fr_pullsOne a2 t i2) (by rfl)))))
def F_goes (s : SG) (t : Nat) : SG := let v1 := s 133 t; let z2 := itr (B_goes_7 t v1) 0 ((s 123 2).toNatClampNeg) s; let v7 := ((v1 * (((z2 136 0) + (z2 136 1)) / 2)) + (z2 123 9)) + (z2 123 27); let v8 := (z2 136 0) - (z2 136 1); let v9 := bif m_cmp .le v8 0 then -((v1 * (-v8)) / 6) else (v1 * v8) / 6; let v10 := (z2 123 20) + v9; let v12 := bif m_cmp .ne (z2 134 t) 2 then (bif m_cmp .ne (z2 134 t) 1 then (0 : Int32) else (-1 : Int32)) else (1 : Int32); let v13 := v10 + v12; let v14 := v13 + (z2 123 26); let v16 := bif m_cmp .le v14 0 then (1 : Int32) else (bif m_cmp .lt v14 20 then (0 : Int32) else (1 : Int32)); let v18 := bif m_cmp .ge v14 0 then (bif m_cmp .le v14 20 then v14 else (20 : Int32)) else (0 : Int32); let v19 := bif m_cmp .eq v16 0 then v7 else v7 / 2; let v20 := (z2 123 19) + v19; let v21 := bif m_cmp .eq v16 0 then (0 : Int32) else (1 : Int32); let v22 := (z2 123 22) + ((uset (uset (uset (uset (uset (uset z2 123 20 v10) 123 20 v13) 123 20 v14) 123 20 v18) 123 19 v20) 142 t v21) 142 t); let v24 := bif m_cmp .eq v16 0 then z2 123 23 else (bif m_cmp .ne (z2 123 23) (-1) then z2 123 23 else Int32.ofNat t); let v25 := bif m_cmp .lt v20 (z2 123 10) then (-1 : Int32) else Int32.ofNat t; (uset (uset (uset (uset (uset (uset (uset (uset (uset z2 123 20 v10) 123 20 v13) 123 20 v14) 123 20 v18) 123 19 v20) 142 t v21) 123 22 v22) 123 23 v24) 123 21 v25)
theorem fr_goes (s : SG) (t : Nat)  : Fr W_goes s (F_goes s t) := by dsimp only [F_goes]; exact (let v1 : Int32 := s 133 t; (let z2 : SG := itr (B_goes_7 t v1) 0 ((s 123 2).toNatClampNeg) s; (let v7 : Int32 := ((v1 * (((z2 136 0) + (z2 136 1)) / 2)) + (z2 123 9)) + (z2 123 27); (let v8 : Int32 := (z2 136 0) - (z2 136 1); (let v9 : Int32 := bif m_cmp .le v8 0 then -((v1 * (-v8)) / 6) else (v1 * v8) / 6; (let v10 : Int32 := (z2 123 20) + v9; (let v12 : Int32 := bif m_cmp .ne (z2 134 t) 2 then (bif m_cmp .ne (z2 134 t) 1 then (0 : Int32) else (-1 : Int32)) else (1 : Int32); (let v13 : Int32 := v10 + v12; (let v14 : Int32 := v13 + (z2 123 26); (let v16 : Int32 := bif m_cmp .le v14 0 then (1 : Int32) else (bif m_cmp .lt v14 20 then (0 : Int32) else (1 : Int32)); (let v18 : Int32 := bif m_cmp .ge v14 0 then (bif m_cmp .le v14 20 then v14 else (20 : Int32)) else (0 : Int32); (let v19 : Int32 := bif m_cmp .eq v16 0 then v7 else v7 / 2; (let v20 : Int32 := (z2 123 19) + v19; (let v21 : Int32 := bif m_cmp .eq v16 0 then (0 : Int32) else (1 : Int32); (let v22 : Int32 := (z2 123 22) + ((uset (uset (uset (uset (uset (uset z2 123 20 v10) 123 20 v13) 123 20 v14) 123 20 v18) 123 19 v20) 142 t v21) 142 t); (let v24 : Int32 := bif m_cmp .eq v16 0 then z2 123 23 else (bif m_cmp .ne (z2 123 23) (-1) then z2 123 23 else Int32.ofNat t); (let v25 : Int32 := bif m_cmp .lt v20 (z2 123 10) then (-1 : Int32) else Int32.ofNat t; (Fr.uset (s1 := (uset (uset (uset (uset (uset (uset (uset (uset z2 123 20 v10) 123 20 v13) 123 20 v14) 123 20 v18) 123 19 v20) 142 t v21) 123 22 v22) 123 23 v24)) (a := 123) (j := 21) (x := v25) (by rfl) (Fr.uset (s1 := (uset (uset (uset (uset (uset (uset (uset z2 123 20 v10) 123 20 v13) 123 20 v14) 123 20 v18) 123 19 v20) 142 t v21) 123 22 v22)) (a := 123) (j := 23) (x := v24) (by rfl) (Fr.uset (s1 := (uset (uset (uset (uset (uset (uset z2 123 20 v10) 123 20 v13) 123 20 v14) 123 20 v18) 123 19 v20) 142 t v21)) (a := 123) (j := 22) (x := v22) (by rfl) (Fr.uset (s1 := (uset (uset (uset (uset (uset z2 123 20 v10) 123 20 v13) 123 20 v14) 123 20 v18) 123 19 v20)) (a := 142) (j := t) (x := v21) (by rfl) (Fr.uset (s1 := (uset (uset (uset (uset z2 123 20 v10) 123 20 v13) 123 20 v14) 123 20 v18)) (a := 123) (j := 19) (x := v20) (by rfl) (Fr.uset (s1 := (uset (uset (uset z2 123 20 v10) 123 20 v13) 123 20 v14)) (a := 123) (j := 20) (x := v18) (by rfl) (Fr.uset (s1 := (uset (uset z2 123 20 v10) 123 20 v13)) (a := 123) (j := 20) (x := v14) (by rfl) (Fr.uset (s1 := (uset z2 123 20 v10)) (a := 123) (j := 20) (x := v13) (by rfl) (Fr.uset (s1 := z2) (a := 123) (j := 20) (x := v10) (by rfl) (Fr.itr (W := W_goes) (m := (fun x : SG => x)) (f := (B_goes_7 t v1)) (fun ii aa => Fr.wk (W2 := W_goes) (fr_B_goes_7 t v1 ii aa ) (by rfl)) ((s 123 2).toNatClampNeg) 0 s (Fr.rf _ _))))))))))))))))))))))))))))
theorem ux_goes (s : SG) (t : Nat) (ht : t < 24) : UP m_X7_goes 0 (m_ent 6 [.ref 123, .int (Int32.ofNat t)]) [] s (Qv (F_goes s t)) := by
  refine UP.stp 3 (i1 := 3) (L1 := [some (.ref 123), some (.int (Int32.ofNat t)), none, none, none, none]) (st1 := [.int (Int32.ofNat t), .ref 133]) (s1 := s) rfl ?_
  refine UP.ald (e := t) rfl rfl (by omega) ?_
  show UP m_X7_goes 4 [some (.ref 123), some (.int (Int32.ofNat t)), none, none, none, none] [.int (s 133 t)] s (Qv (F_goes s t))
  refine nm (G := fun v1 => UP m_X7_goes 4 [some (.ref 123), some (.int (Int32.ofNat t)), none, none, none, none] [.int v1] s (Qv (F_goes s t))) (s 133 t) (fun v1 e1 => ?_)
  refine UP.stp 3 (i1 := 7) (L1 := [some (.ref 123), some (.int (Int32.ofNat t)), some (.int v1), some (.int 0), none, none]) (st1 := []) (s1 := s) rfl ?_
  refine lp (fun (i2 : Nat) (a2 : SG) => ∀ (u2_4 : Option Value) (u2_5 : Option Value), UP m_X7_goes 7 [some (.ref 123), some (.int (Int32.ofNat t)), some (.int v1), some (.int (Int32.ofNat i2)), u2_4, u2_5] [] a2 (Qv (F_goes s t))) (fun (_ : Nat) (a2 : SG) => Fr W_goes s a2) (B_goes_7 t v1) ((s 123 2).toNatClampNeg) (fun i2 a2 hi2 g2 => g2.tr (fr_B_goes_7 t v1 i2 a2 )) (fun i2 a2 hi2 g2 kk => ?_) ((s 123 2).toNatClampNeg) (0) s (by  omega) (Fr.rf _ _) (fun z2 e2 g2 => ?_) none none
  · skip
    intro u2_4 u2_5
    have hbi2 := cl_lt (s 123 2)
    refine UP.stp 3 (i1 := 10) (L1 := [some (.ref 123), some (.int (Int32.ofNat t)), some (.int v1), some (.int (Int32.ofNat i2)), u2_4, u2_5]) (st1 := [.int (a2 123 2), .int (Int32.ofNat i2)]) (s1 := a2) rfl ?_
    refine UP.icF rfl (by rw [(g2 123 2 rfl)]; exact ge_F hi2) ?_
    refine UP.stp 1 (i1 := 12) (L1 := [some (.ref 123), some (.int (Int32.ofNat t)), some (.int v1), some (.int (Int32.ofNat i2)), u2_4, u2_5]) (st1 := [.int v1]) (s1 := a2) rfl ?_
    refine mrg (m_cmp .le v1 0) a2 (bif m_cmp .ne (F_isIn a2 (a2 123 25) (a2 135 i2)) 0 then a2 else (F_pullsOne a2 t i2)) (fun v6 : SG => UP m_X7_goes 25 [some (.ref 123), some (.int (Int32.ofNat t)), some (.int v1), some (.int (Int32.ofNat i2)), u2_4, u2_5] [] v6 (Qv (F_goes s t))) (fun cc kk => ?_) (fun cc kk => ?_) (fun v6 e6 => ?_)
    · skip
      refine UP.ifT rfl cc ?_
      exact kk
    · skip
      refine UP.ifF rfl cc ?_
      refine UP.stp 5 (i1 := 18) (L1 := [some (.ref 123), some (.int (Int32.ofNat t)), some (.int v1), some (.int (Int32.ofNat i2)), u2_4, u2_5]) (st1 := [.int (Int32.ofNat i2), .ref 135, .int (a2 123 25)]) (s1 := a2) rfl ?_
      refine UP.ald (e := i2) rfl rfl (by omega) ?_
      show UP m_X7_goes 19 [some (.ref 123), some (.int (Int32.ofNat t)), some (.int v1), some (.int (Int32.ofNat i2)), u2_4, u2_5] [.int (a2 135 i2), .int (a2 123 25)] a2 (Qv (F_goes s t))
      refine UP.cI (M1 := m_X7_isIn) (as := [.int (a2 123 25), .int (a2 135 i2)]) (rest := []) (T := F_isIn a2 (a2 123 25) (a2 135 i2)) rfl rfl (ux_isIn a2 (a2 123 25) (a2 135 i2)) ?_
      refine mrg (m_cmp .ne (F_isIn a2 (a2 123 25) (a2 135 i2)) 0) a2 (F_pullsOne a2 t i2) (fun v5 : SG => UP m_X7_goes 25 [some (.ref 123), some (.int (Int32.ofNat t)), some (.int v1), some (.int (Int32.ofNat i2)), u2_4, u2_5] [] v5 (Qv (F_goes s t))) (fun cc kk => ?_) (fun cc kk => ?_) (fun v5 e5 => ?_)
      · skip
        refine UP.ifT rfl cc ?_
        exact kk
      · skip
        refine UP.ifF rfl cc ?_
        refine UP.stp 3 (i1 := 24) (L1 := [some (.ref 123), some (.int (Int32.ofNat t)), some (.int v1), some (.int (Int32.ofNat i2)), u2_4, u2_5]) (st1 := [.int (Int32.ofNat i2), .int (Int32.ofNat t), .ref 123]) (s1 := a2) rfl ?_
        refine UP.cV (M1 := m_X7_pullsOne) (as := [.ref 123, .int (Int32.ofNat t), .int (Int32.ofNat i2)]) (rest := []) (T := F_pullsOne a2 t i2) rfl rfl (ux_pullsOne a2 t i2 (by omega)) (fun z4 e4 => ?_)
        subst e4
        exact kk
      subst e5
      exact kk
    refine UP.stp 2 (i1 := 7) (L1 := [some (.ref 123), some (.int (Int32.ofNat t)), some (.int v1), some (.int ((Int32.ofNat i2) + 1)), u2_4, u2_5]) (st1 := []) (s1 := v6) rfl ?_
    subst e6
    rw [ofn_s]
    try dsimp only [B_goes_7] at kk
    exact kk _ _
  intro u2_4 u2_5
  refine UP.stp 3 (i1 := 10) (L1 := [some (.ref 123), some (.int (Int32.ofNat t)), some (.int v1), some (.int (Int32.ofNat ((s 123 2).toNatClampNeg))), u2_4, u2_5]) (st1 := [.int (z2 123 2), .int (Int32.ofNat ((s 123 2).toNatClampNeg))]) (s1 := z2) rfl ?_
  refine UP.icT rfl (by rw [(g2 123 2 rfl)]; exact ge_T _) ?_
  refine UP.stp 19 (i1 := 46) (L1 := [some (.ref 123), some (.int (Int32.ofNat t)), some (.int v1), some (.int (Int32.ofNat ((s 123 2).toNatClampNeg))), u2_4, u2_5]) (st1 := [.int (((v1 * (((z2 136 0) + (z2 136 1)) / 2)) + (z2 123 9)) + (z2 123 27))]) (s1 := z2) rfl ?_
  refine nm (G := fun v7 => UP m_X7_goes 46 [some (.ref 123), some (.int (Int32.ofNat t)), some (.int v1), some (.int (Int32.ofNat ((s 123 2).toNatClampNeg))), u2_4, u2_5] [.int v7] z2 (Qv (F_goes s t))) (((v1 * (((z2 136 0) + (z2 136 1)) / 2)) + (z2 123 9)) + (z2 123 27)) (fun v7 e7 => ?_)
  refine UP.stp 10 (i1 := 56) (L1 := [some (.ref 123), some (.int (Int32.ofNat t)), some (.int v1), some (.int v7), u2_4, u2_5]) (st1 := [.int ((z2 136 0) - (z2 136 1))]) (s1 := z2) rfl ?_
  refine nm (G := fun v8 => UP m_X7_goes 56 [some (.ref 123), some (.int (Int32.ofNat t)), some (.int v1), some (.int v7), u2_4, u2_5] [.int v8] z2 (Qv (F_goes s t))) ((z2 136 0) - (z2 136 1)) (fun v8 e8 => ?_)
  refine UP.stp 5 (i1 := 61) (L1 := [some (.ref 123), some (.int (Int32.ofNat t)), some (.int v1), some (.int v7), some (.int v8), u2_5]) (st1 := [.int v8, .int (z2 123 20), .ref 123]) (s1 := z2) rfl ?_
  refine mrg (m_cmp .le v8 0) (-((v1 * (-v8)) / 6)) ((v1 * v8) / 6) (fun v9 : Int32 => UP m_X7_goes 75 [some (.ref 123), some (.int (Int32.ofNat t)), some (.int v1), some (.int v7), some (.int v8), u2_5] [.int v9, .int (z2 123 20), .ref 123] z2 (Qv (F_goes s t))) (fun cc kk => ?_) (fun cc kk => ?_) (fun v9 e9 => ?_)
  · skip
    refine UP.ifT rfl cc ?_
    refine UP.stp 7 (i1 := 75) (L1 := [some (.ref 123), some (.int (Int32.ofNat t)), some (.int v1), some (.int v7), some (.int v8), u2_5]) (st1 := [.int (-((v1 * (-v8)) / 6)), .int (z2 123 20), .ref 123]) (s1 := z2) rfl ?_
    exact kk
  · skip
    refine UP.ifF rfl cc ?_
    refine UP.stp 6 (i1 := 75) (L1 := [some (.ref 123), some (.int (Int32.ofNat t)), some (.int v1), some (.int v7), some (.int v8), u2_5]) (st1 := [.int ((v1 * v8) / 6), .int (z2 123 20), .ref 123]) (s1 := z2) rfl ?_
    exact kk
  refine UP.stp 1 (i1 := 76) (L1 := [some (.ref 123), some (.int (Int32.ofNat t)), some (.int v1), some (.int v7), some (.int v8), u2_5]) (st1 := [.int ((z2 123 20) + v9), .ref 123]) (s1 := z2) rfl ?_
  refine nm (G := fun v10 => UP m_X7_goes 76 [some (.ref 123), some (.int (Int32.ofNat t)), some (.int v1), some (.int v7), some (.int v8), u2_5] [.int v10, .ref 123] z2 (Qv (F_goes s t))) ((z2 123 20) + v9) (fun v10 e10 => ?_)
  refine UP.stp 7 (i1 := 83) (L1 := [some (.ref 123), some (.int (Int32.ofNat t)), some (.int v1), some (.int v7), some (.int v8), u2_5]) (st1 := [.int (Int32.ofNat t), .ref 134, .int v10, .ref 123]) (s1 := (uset z2 123 20 v10)) rfl ?_
  refine UP.ald (e := t) rfl rfl (by omega) ?_
  show UP m_X7_goes 84 [some (.ref 123), some (.int (Int32.ofNat t)), some (.int v1), some (.int v7), some (.int v8), u2_5] [.int (z2 134 t), .int v10, .ref 123] (uset z2 123 20 v10) (Qv (F_goes s t))
  refine UP.stp 1 (i1 := 85) (L1 := [some (.ref 123), some (.int (Int32.ofNat t)), some (.int v1), some (.int v7), some (.int v8), u2_5]) (st1 := [.int 2, .int (z2 134 t), .int v10, .ref 123]) (s1 := (uset z2 123 20 v10)) rfl ?_
  refine mrg (m_cmp .ne (z2 134 t) 2) (bif m_cmp .ne (z2 134 t) 1 then (0 : Int32) else (-1 : Int32)) (1 : Int32) (fun v12 : Int32 => UP m_X7_goes 97 [some (.ref 123), some (.int (Int32.ofNat t)), some (.int v1), some (.int v7), some (.int v8), u2_5] [.int v12, .int v10, .ref 123] (uset z2 123 20 v10) (Qv (F_goes s t))) (fun cc kk => ?_) (fun cc kk => ?_) (fun v12 e12 => ?_)
  · skip
    refine UP.icT rfl cc ?_
    refine UP.stp 3 (i1 := 91) (L1 := [some (.ref 123), some (.int (Int32.ofNat t)), some (.int v1), some (.int v7), some (.int v8), u2_5]) (st1 := [.int (Int32.ofNat t), .ref 134, .int v10, .ref 123]) (s1 := (uset z2 123 20 v10)) rfl ?_
    refine UP.ald (e := t) rfl rfl (by omega) ?_
    show UP m_X7_goes 92 [some (.ref 123), some (.int (Int32.ofNat t)), some (.int v1), some (.int v7), some (.int v8), u2_5] [.int (z2 134 t), .int v10, .ref 123] (uset z2 123 20 v10) (Qv (F_goes s t))
    refine UP.stp 1 (i1 := 93) (L1 := [some (.ref 123), some (.int (Int32.ofNat t)), some (.int v1), some (.int v7), some (.int v8), u2_5]) (st1 := [.int 1, .int (z2 134 t), .int v10, .ref 123]) (s1 := (uset z2 123 20 v10)) rfl ?_
    refine mrg (m_cmp .ne (z2 134 t) 1) (0 : Int32) (-1 : Int32) (fun v11 : Int32 => UP m_X7_goes 97 [some (.ref 123), some (.int (Int32.ofNat t)), some (.int v1), some (.int v7), some (.int v8), u2_5] [.int v11, .int v10, .ref 123] (uset z2 123 20 v10) (Qv (F_goes s t))) (fun cc kk => ?_) (fun cc kk => ?_) (fun v11 e11 => ?_)
    · skip
      refine UP.icT rfl cc ?_
      refine UP.stp 1 (i1 := 97) (L1 := [some (.ref 123), some (.int (Int32.ofNat t)), some (.int v1), some (.int v7), some (.int v8), u2_5]) (st1 := [.int 0, .int v10, .ref 123]) (s1 := (uset z2 123 20 v10)) rfl ?_
      exact kk
    · skip
      refine UP.icF rfl cc ?_
      refine UP.stp 2 (i1 := 97) (L1 := [some (.ref 123), some (.int (Int32.ofNat t)), some (.int v1), some (.int v7), some (.int v8), u2_5]) (st1 := [.int (-1), .int v10, .ref 123]) (s1 := (uset z2 123 20 v10)) rfl ?_
      exact kk
    subst e11
    exact kk
  · skip
    refine UP.icF rfl cc ?_
    refine UP.stp 2 (i1 := 97) (L1 := [some (.ref 123), some (.int (Int32.ofNat t)), some (.int v1), some (.int v7), some (.int v8), u2_5]) (st1 := [.int 1, .int v10, .ref 123]) (s1 := (uset z2 123 20 v10)) rfl ?_
    exact kk
  refine UP.stp 1 (i1 := 98) (L1 := [some (.ref 123), some (.int (Int32.ofNat t)), some (.int v1), some (.int v7), some (.int v8), u2_5]) (st1 := [.int (v10 + v12), .ref 123]) (s1 := (uset z2 123 20 v10)) rfl ?_
  refine nm (G := fun v13 => UP m_X7_goes 98 [some (.ref 123), some (.int (Int32.ofNat t)), some (.int v1), some (.int v7), some (.int v8), u2_5] [.int v13, .ref 123] (uset z2 123 20 v10) (Qv (F_goes s t))) (v10 + v12) (fun v13 e13 => ?_)
  refine UP.stp 7 (i1 := 105) (L1 := [some (.ref 123), some (.int (Int32.ofNat t)), some (.int v1), some (.int v7), some (.int v8), u2_5]) (st1 := [.int (v13 + (z2 123 26)), .ref 123]) (s1 := (uset (uset z2 123 20 v10) 123 20 v13)) rfl ?_
  refine nm (G := fun v14 => UP m_X7_goes 105 [some (.ref 123), some (.int (Int32.ofNat t)), some (.int v1), some (.int v7), some (.int v8), u2_5] [.int v14, .ref 123] (uset (uset z2 123 20 v10) 123 20 v13) (Qv (F_goes s t))) (v13 + (z2 123 26)) (fun v14 e14 => ?_)
  refine UP.stp 3 (i1 := 108) (L1 := [some (.ref 123), some (.int (Int32.ofNat t)), some (.int v1), some (.int v7), some (.int v8), u2_5]) (st1 := [.int v14]) (s1 := (uset (uset (uset z2 123 20 v10) 123 20 v13) 123 20 v14)) rfl ?_
  refine mrg (m_cmp .le v14 0) (1 : Int32) (bif m_cmp .lt v14 20 then (0 : Int32) else (1 : Int32)) (fun v16 : Int32 => UP m_X7_goes 116 [some (.ref 123), some (.int (Int32.ofNat t)), some (.int v1), some (.int v7), some (.int v8), u2_5] [.int v16] (uset (uset (uset z2 123 20 v10) 123 20 v13) 123 20 v14) (Qv (F_goes s t))) (fun cc kk => ?_) (fun cc kk => ?_) (fun v16 e16 => ?_)
  · skip
    refine UP.ifT rfl cc ?_
    refine UP.stp 2 (i1 := 116) (L1 := [some (.ref 123), some (.int (Int32.ofNat t)), some (.int v1), some (.int v7), some (.int v8), u2_5]) (st1 := [.int 1]) (s1 := (uset (uset (uset z2 123 20 v10) 123 20 v13) 123 20 v14)) rfl ?_
    exact kk
  · skip
    refine UP.ifF rfl cc ?_
    refine UP.stp 3 (i1 := 112) (L1 := [some (.ref 123), some (.int (Int32.ofNat t)), some (.int v1), some (.int v7), some (.int v8), u2_5]) (st1 := [.int 20, .int v14]) (s1 := (uset (uset (uset z2 123 20 v10) 123 20 v13) 123 20 v14)) rfl ?_
    refine mrg (m_cmp .lt v14 20) (0 : Int32) (1 : Int32) (fun v15 : Int32 => UP m_X7_goes 116 [some (.ref 123), some (.int (Int32.ofNat t)), some (.int v1), some (.int v7), some (.int v8), u2_5] [.int v15] (uset (uset (uset z2 123 20 v10) 123 20 v13) 123 20 v14) (Qv (F_goes s t))) (fun cc kk => ?_) (fun cc kk => ?_) (fun v15 e15 => ?_)
    · skip
      refine UP.icT rfl cc ?_
      refine UP.stp 1 (i1 := 116) (L1 := [some (.ref 123), some (.int (Int32.ofNat t)), some (.int v1), some (.int v7), some (.int v8), u2_5]) (st1 := [.int 0]) (s1 := (uset (uset (uset z2 123 20 v10) 123 20 v13) 123 20 v14)) rfl ?_
      exact kk
    · skip
      refine UP.icF rfl cc ?_
      refine UP.stp 2 (i1 := 116) (L1 := [some (.ref 123), some (.int (Int32.ofNat t)), some (.int v1), some (.int v7), some (.int v8), u2_5]) (st1 := [.int 1]) (s1 := (uset (uset (uset z2 123 20 v10) 123 20 v13) 123 20 v14)) rfl ?_
      exact kk
    subst e15
    exact kk
  refine UP.stp 4 (i1 := 120) (L1 := [some (.ref 123), some (.int (Int32.ofNat t)), some (.int v1), some (.int v7), some (.int v8), some (.int v16)]) (st1 := [.int v14, .ref 123]) (s1 := (uset (uset (uset z2 123 20 v10) 123 20 v13) 123 20 v14)) rfl ?_
  refine mrg (m_cmp .ge v14 0) (bif m_cmp .le v14 20 then v14 else (20 : Int32)) (0 : Int32) (fun v18 : Int32 => UP m_X7_goes 131 [some (.ref 123), some (.int (Int32.ofNat t)), some (.int v1), some (.int v7), some (.int v8), some (.int v16)] [.int v18, .ref 123] (uset (uset (uset z2 123 20 v10) 123 20 v13) 123 20 v14) (Qv (F_goes s t))) (fun cc kk => ?_) (fun cc kk => ?_) (fun v18 e18 => ?_)
  · skip
    refine UP.ifT rfl cc ?_
    refine UP.stp 3 (i1 := 126) (L1 := [some (.ref 123), some (.int (Int32.ofNat t)), some (.int v1), some (.int v7), some (.int v8), some (.int v16)]) (st1 := [.int 20, .int v14, .ref 123]) (s1 := (uset (uset (uset z2 123 20 v10) 123 20 v13) 123 20 v14)) rfl ?_
    refine mrg (m_cmp .le v14 20) v14 (20 : Int32) (fun v17 : Int32 => UP m_X7_goes 131 [some (.ref 123), some (.int (Int32.ofNat t)), some (.int v1), some (.int v7), some (.int v8), some (.int v16)] [.int v17, .ref 123] (uset (uset (uset z2 123 20 v10) 123 20 v13) 123 20 v14) (Qv (F_goes s t))) (fun cc kk => ?_) (fun cc kk => ?_) (fun v17 e17 => ?_)
    · skip
      refine UP.icT rfl cc ?_
      refine UP.stp 2 (i1 := 131) (L1 := [some (.ref 123), some (.int (Int32.ofNat t)), some (.int v1), some (.int v7), some (.int v8), some (.int v16)]) (st1 := [.int v14, .ref 123]) (s1 := (uset (uset (uset z2 123 20 v10) 123 20 v13) 123 20 v14)) rfl ?_
      exact kk
    · skip
      refine UP.icF rfl cc ?_
      refine UP.stp 2 (i1 := 131) (L1 := [some (.ref 123), some (.int (Int32.ofNat t)), some (.int v1), some (.int v7), some (.int v8), some (.int v16)]) (st1 := [.int 20, .ref 123]) (s1 := (uset (uset (uset z2 123 20 v10) 123 20 v13) 123 20 v14)) rfl ?_
      exact kk
    subst e17
    exact kk
  · skip
    refine UP.ifF rfl cc ?_
    refine UP.stp 2 (i1 := 131) (L1 := [some (.ref 123), some (.int (Int32.ofNat t)), some (.int v1), some (.int v7), some (.int v8), some (.int v16)]) (st1 := [.int 0, .ref 123]) (s1 := (uset (uset (uset z2 123 20 v10) 123 20 v13) 123 20 v14)) rfl ?_
    exact kk
  refine UP.stp 5 (i1 := 136) (L1 := [some (.ref 123), some (.int (Int32.ofNat t)), some (.int v1), some (.int v7), some (.int v8), some (.int v16)]) (st1 := [.int v16, .int (z2 123 19), .ref 123]) (s1 := (uset (uset (uset (uset z2 123 20 v10) 123 20 v13) 123 20 v14) 123 20 v18)) rfl ?_
  refine mrg (m_cmp .eq v16 0) v7 (v7 / 2) (fun v19 : Int32 => UP m_X7_goes 142 [some (.ref 123), some (.int (Int32.ofNat t)), some (.int v1), some (.int v7), some (.int v8), some (.int v16)] [.int v19, .int (z2 123 19), .ref 123] (uset (uset (uset (uset z2 123 20 v10) 123 20 v13) 123 20 v14) 123 20 v18) (Qv (F_goes s t))) (fun cc kk => ?_) (fun cc kk => ?_) (fun v19 e19 => ?_)
  · skip
    refine UP.ifT rfl cc ?_
    refine UP.stp 1 (i1 := 142) (L1 := [some (.ref 123), some (.int (Int32.ofNat t)), some (.int v1), some (.int v7), some (.int v8), some (.int v16)]) (st1 := [.int v7, .int (z2 123 19), .ref 123]) (s1 := (uset (uset (uset (uset z2 123 20 v10) 123 20 v13) 123 20 v14) 123 20 v18)) rfl ?_
    exact kk
  · skip
    refine UP.ifF rfl cc ?_
    refine UP.stp 4 (i1 := 142) (L1 := [some (.ref 123), some (.int (Int32.ofNat t)), some (.int v1), some (.int v7), some (.int v8), some (.int v16)]) (st1 := [.int (v7 / 2), .int (z2 123 19), .ref 123]) (s1 := (uset (uset (uset (uset z2 123 20 v10) 123 20 v13) 123 20 v14) 123 20 v18)) rfl ?_
    exact kk
  refine UP.stp 1 (i1 := 143) (L1 := [some (.ref 123), some (.int (Int32.ofNat t)), some (.int v1), some (.int v7), some (.int v8), some (.int v16)]) (st1 := [.int ((z2 123 19) + v19), .ref 123]) (s1 := (uset (uset (uset (uset z2 123 20 v10) 123 20 v13) 123 20 v14) 123 20 v18)) rfl ?_
  refine nm (G := fun v20 => UP m_X7_goes 143 [some (.ref 123), some (.int (Int32.ofNat t)), some (.int v1), some (.int v7), some (.int v8), some (.int v16)] [.int v20, .ref 123] (uset (uset (uset (uset z2 123 20 v10) 123 20 v13) 123 20 v14) 123 20 v18) (Qv (F_goes s t))) ((z2 123 19) + v19) (fun v20 e20 => ?_)
  refine UP.stp 5 (i1 := 148) (L1 := [some (.ref 123), some (.int (Int32.ofNat t)), some (.int v1), some (.int v7), some (.int v8), some (.int v16)]) (st1 := [.int v16, .int (Int32.ofNat t), .ref 142]) (s1 := (uset (uset (uset (uset (uset z2 123 20 v10) 123 20 v13) 123 20 v14) 123 20 v18) 123 19 v20)) rfl ?_
  refine mrg (m_cmp .eq v16 0) (0 : Int32) (1 : Int32) (fun v21 : Int32 => UP m_X7_goes 152 [some (.ref 123), some (.int (Int32.ofNat t)), some (.int v1), some (.int v7), some (.int v8), some (.int v16)] [.int v21, .int (Int32.ofNat t), .ref 142] (uset (uset (uset (uset (uset z2 123 20 v10) 123 20 v13) 123 20 v14) 123 20 v18) 123 19 v20) (Qv (F_goes s t))) (fun cc kk => ?_) (fun cc kk => ?_) (fun v21 e21 => ?_)
  · skip
    refine UP.ifT rfl cc ?_
    refine UP.stp 1 (i1 := 152) (L1 := [some (.ref 123), some (.int (Int32.ofNat t)), some (.int v1), some (.int v7), some (.int v8), some (.int v16)]) (st1 := [.int 0, .int (Int32.ofNat t), .ref 142]) (s1 := (uset (uset (uset (uset (uset z2 123 20 v10) 123 20 v13) 123 20 v14) 123 20 v18) 123 19 v20)) rfl ?_
    exact kk
  · skip
    refine UP.ifF rfl cc ?_
    refine UP.stp 2 (i1 := 152) (L1 := [some (.ref 123), some (.int (Int32.ofNat t)), some (.int v1), some (.int v7), some (.int v8), some (.int v16)]) (st1 := [.int 1, .int (Int32.ofNat t), .ref 142]) (s1 := (uset (uset (uset (uset (uset z2 123 20 v10) 123 20 v13) 123 20 v14) 123 20 v18) 123 19 v20)) rfl ?_
    exact kk
  refine UP.ast (e := t) rfl rfl (by omega) ?_
  show UP m_X7_goes 153 [some (.ref 123), some (.int (Int32.ofNat t)), some (.int v1), some (.int v7), some (.int v8), some (.int v16)] [] (uset (uset (uset (uset (uset (uset z2 123 20 v10) 123 20 v13) 123 20 v14) 123 20 v18) 123 19 v20) 142 t v21) (Qv (F_goes s t))
  refine UP.stp 6 (i1 := 159) (L1 := [some (.ref 123), some (.int (Int32.ofNat t)), some (.int v1), some (.int v7), some (.int v8), some (.int v16)]) (st1 := [.int (Int32.ofNat t), .ref 142, .int (z2 123 22), .ref 123]) (s1 := (uset (uset (uset (uset (uset (uset z2 123 20 v10) 123 20 v13) 123 20 v14) 123 20 v18) 123 19 v20) 142 t v21)) rfl ?_
  refine UP.ald (e := t) rfl rfl (by omega) ?_
  show UP m_X7_goes 160 [some (.ref 123), some (.int (Int32.ofNat t)), some (.int v1), some (.int v7), some (.int v8), some (.int v16)] [.int ((uset (uset (uset (uset (uset (uset z2 123 20 v10) 123 20 v13) 123 20 v14) 123 20 v18) 123 19 v20) 142 t v21) 142 t), .int (z2 123 22), .ref 123] (uset (uset (uset (uset (uset (uset z2 123 20 v10) 123 20 v13) 123 20 v14) 123 20 v18) 123 19 v20) 142 t v21) (Qv (F_goes s t))
  refine UP.stp 1 (i1 := 161) (L1 := [some (.ref 123), some (.int (Int32.ofNat t)), some (.int v1), some (.int v7), some (.int v8), some (.int v16)]) (st1 := [.int ((z2 123 22) + ((uset (uset (uset (uset (uset (uset z2 123 20 v10) 123 20 v13) 123 20 v14) 123 20 v18) 123 19 v20) 142 t v21) 142 t)), .ref 123]) (s1 := (uset (uset (uset (uset (uset (uset z2 123 20 v10) 123 20 v13) 123 20 v14) 123 20 v18) 123 19 v20) 142 t v21)) rfl ?_
  refine nm (G := fun v22 => UP m_X7_goes 161 [some (.ref 123), some (.int (Int32.ofNat t)), some (.int v1), some (.int v7), some (.int v8), some (.int v16)] [.int v22, .ref 123] (uset (uset (uset (uset (uset (uset z2 123 20 v10) 123 20 v13) 123 20 v14) 123 20 v18) 123 19 v20) 142 t v21) (Qv (F_goes s t))) ((z2 123 22) + ((uset (uset (uset (uset (uset (uset z2 123 20 v10) 123 20 v13) 123 20 v14) 123 20 v18) 123 19 v20) 142 t v21) 142 t)) (fun v22 e22 => ?_)
  refine UP.stp 3 (i1 := 164) (L1 := [some (.ref 123), some (.int (Int32.ofNat t)), some (.int v1), some (.int v7), some (.int v8), some (.int v16)]) (st1 := [.int v16, .ref 123]) (s1 := (uset (uset (uset (uset (uset (uset (uset z2 123 20 v10) 123 20 v13) 123 20 v14) 123 20 v18) 123 19 v20) 142 t v21) 123 22 v22)) rfl ?_
  refine mrg (m_cmp .eq v16 0) (z2 123 23) (bif m_cmp .ne (z2 123 23) (-1) then z2 123 23 else Int32.ofNat t) (fun v24 : Int32 => UP m_X7_goes 173 [some (.ref 123), some (.int (Int32.ofNat t)), some (.int v1), some (.int v7), some (.int v8), some (.int v16)] [.int v24, .ref 123] (uset (uset (uset (uset (uset (uset (uset z2 123 20 v10) 123 20 v13) 123 20 v14) 123 20 v18) 123 19 v20) 142 t v21) 123 22 v22) (Qv (F_goes s t))) (fun cc kk => ?_) (fun cc kk => ?_) (fun v24 e24 => ?_)
  · skip
    refine UP.ifT rfl cc ?_
    refine UP.stp 2 (i1 := 173) (L1 := [some (.ref 123), some (.int (Int32.ofNat t)), some (.int v1), some (.int v7), some (.int v8), some (.int v16)]) (st1 := [.int (z2 123 23), .ref 123]) (s1 := (uset (uset (uset (uset (uset (uset (uset z2 123 20 v10) 123 20 v13) 123 20 v14) 123 20 v18) 123 19 v20) 142 t v21) 123 22 v22)) rfl ?_
    exact kk
  · skip
    refine UP.ifF rfl cc ?_
    refine UP.stp 3 (i1 := 168) (L1 := [some (.ref 123), some (.int (Int32.ofNat t)), some (.int v1), some (.int v7), some (.int v8), some (.int v16)]) (st1 := [.int (-1), .int (z2 123 23), .ref 123]) (s1 := (uset (uset (uset (uset (uset (uset (uset z2 123 20 v10) 123 20 v13) 123 20 v14) 123 20 v18) 123 19 v20) 142 t v21) 123 22 v22)) rfl ?_
    refine mrg (m_cmp .ne (z2 123 23) (-1)) (z2 123 23) (Int32.ofNat t) (fun v23 : Int32 => UP m_X7_goes 173 [some (.ref 123), some (.int (Int32.ofNat t)), some (.int v1), some (.int v7), some (.int v8), some (.int v16)] [.int v23, .ref 123] (uset (uset (uset (uset (uset (uset (uset z2 123 20 v10) 123 20 v13) 123 20 v14) 123 20 v18) 123 19 v20) 142 t v21) 123 22 v22) (Qv (F_goes s t))) (fun cc kk => ?_) (fun cc kk => ?_) (fun v23 e23 => ?_)
    · skip
      refine UP.icT rfl cc ?_
      refine UP.stp 2 (i1 := 173) (L1 := [some (.ref 123), some (.int (Int32.ofNat t)), some (.int v1), some (.int v7), some (.int v8), some (.int v16)]) (st1 := [.int (z2 123 23), .ref 123]) (s1 := (uset (uset (uset (uset (uset (uset (uset z2 123 20 v10) 123 20 v13) 123 20 v14) 123 20 v18) 123 19 v20) 142 t v21) 123 22 v22)) rfl ?_
      exact kk
    · skip
      refine UP.icF rfl cc ?_
      refine UP.stp 2 (i1 := 173) (L1 := [some (.ref 123), some (.int (Int32.ofNat t)), some (.int v1), some (.int v7), some (.int v8), some (.int v16)]) (st1 := [.int (Int32.ofNat t), .ref 123]) (s1 := (uset (uset (uset (uset (uset (uset (uset z2 123 20 v10) 123 20 v13) 123 20 v14) 123 20 v18) 123 19 v20) 142 t v21) 123 22 v22)) rfl ?_
      exact kk
    subst e23
    exact kk
  refine UP.stp 6 (i1 := 179) (L1 := [some (.ref 123), some (.int (Int32.ofNat t)), some (.int v1), some (.int v7), some (.int v8), some (.int v16)]) (st1 := [.int (z2 123 10), .int v20, .ref 123]) (s1 := (uset (uset (uset (uset (uset (uset (uset (uset z2 123 20 v10) 123 20 v13) 123 20 v14) 123 20 v18) 123 19 v20) 142 t v21) 123 22 v22) 123 23 v24)) rfl ?_
  refine mrg (m_cmp .lt v20 (z2 123 10)) (-1 : Int32) (Int32.ofNat t) (fun v25 : Int32 => UP m_X7_goes 183 [some (.ref 123), some (.int (Int32.ofNat t)), some (.int v1), some (.int v7), some (.int v8), some (.int v16)] [.int v25, .ref 123] (uset (uset (uset (uset (uset (uset (uset (uset z2 123 20 v10) 123 20 v13) 123 20 v14) 123 20 v18) 123 19 v20) 142 t v21) 123 22 v22) 123 23 v24) (Qv (F_goes s t))) (fun cc kk => ?_) (fun cc kk => ?_) (fun v25 e25 => ?_)
  · skip
    refine UP.icT rfl cc ?_
    refine UP.stp 1 (i1 := 183) (L1 := [some (.ref 123), some (.int (Int32.ofNat t)), some (.int v1), some (.int v7), some (.int v8), some (.int v16)]) (st1 := [.int (-1), .ref 123]) (s1 := (uset (uset (uset (uset (uset (uset (uset (uset z2 123 20 v10) 123 20 v13) 123 20 v14) 123 20 v18) 123 19 v20) 142 t v21) 123 22 v22) 123 23 v24)) rfl ?_
    exact kk
  · skip
    refine UP.icF rfl cc ?_
    refine UP.stp 2 (i1 := 183) (L1 := [some (.ref 123), some (.int (Int32.ofNat t)), some (.int v1), some (.int v7), some (.int v8), some (.int v16)]) (st1 := [.int (Int32.ofNat t), .ref 123]) (s1 := (uset (uset (uset (uset (uset (uset (uset (uset z2 123 20 v10) 123 20 v13) 123 20 v14) 123 20 v18) 123 19 v20) 142 t v21) 123 22 v22) 123 23 v24)) rfl ?_
    exact kk
  refine UP.stp 1 (i1 := 184) (L1 := [some (.ref 123), some (.int (Int32.ofNat t)), some (.int v1), some (.int v7), some (.int v8), some (.int v16)]) (st1 := []) (s1 := (uset (uset (uset (uset (uset (uset (uset (uset (uset z2 123 20 v10) 123 20 v13) 123 20 v14) 123 20 v18) 123 19 v20) 142 t v21) 123 22 v22) 123 23 v24) 123 21 v25)) rfl ?_
  exact UP.ret (r := none) rfl ⟨by subst e25 e24 e22 e21 e20 e19 e18 e16 e14 e13 e12 e10 e9 e8 e7 e2 e1; first | (dsimp only [F_goes]; done) | (dsimp only; done) | rfl, by subst e25 e24 e22 e21 e20 e19 e18 e16 e14 e13 e12 e10 e9 e8 e7 e2 e1; first | (dsimp only [F_goes]; done) | (dsimp only; done) | rfl⟩
def W_goesBy : List (Nat × Nat × Option Nat) := [(136, 143, none), (123, 123, some 19), (123, 123, some 20), (123, 123, some 21), (123, 123, some 22), (123, 123, some 23), (123, 123, some 24), (123, 123, some 25), (123, 123, some 26), (123, 123, some 27)]
def B_goesBy_20 (t : Nat) (i2 : Nat) (a2 : SG) : SG := (uset a2 143 (8 * t + i2) 0)
theorem fr_B_goesBy_20 (t : Nat) (i2 : Nat) (a2 : SG)  (hi2 : i2 < 8) : Fr W_goesBy a2 ((B_goesBy_20 t) i2 a2) := by dsimp only [B_goesBy_20]; exact (Fr.uset (s1 := a2) (a := 143) (j := 8 * t + i2) (x := 0) (by rfl) (Fr.rf _ _))
def F_goesBy (s : SG) (t : Nat) : SG := let z1 := F_befalls s t; let z2 := itr (B_goesBy_20 t) 0 8 (uset (uset (uset z1 136 0 0) 136 1 0) 142 t 0); let v4 := bif m_cmp .ne (z2 123 21) (-1) then z2 else (F_goes z2 t); let v5 := v4 123 19; let v6 := v4 123 20; let v7 := v4 136 0; let v8 := v4 136 1; let v9 := bif m_cmp .ge (v4 123 20) 10 then (v4 123 20) - 10 else 10 - (v4 123 20); let v10 := bif m_cmp .le v9 (v4 123 24) then v4 123 24 else v9; (uset (uset (uset (uset (uset v4 139 t v5) 140 t v6) 141 (2 * t) v7) 141 (2 * t + 1) v8) 123 24 v10)
theorem fr_goesBy (s : SG) (t : Nat)  : Fr W_goesBy s (F_goesBy s t) := by dsimp only [F_goesBy]; exact (let z1 : SG := F_befalls s t; (let z2 : SG := itr (B_goesBy_20 t) 0 8 (uset (uset (uset z1 136 0 0) 136 1 0) 142 t 0); (let v4 : SG := bif m_cmp .ne (z2 123 21) (-1) then z2 else (F_goes z2 t); (let v5 : Int32 := v4 123 19; (let v6 : Int32 := v4 123 20; (let v7 : Int32 := v4 136 0; (let v8 : Int32 := v4 136 1; (let v9 : Int32 := bif m_cmp .ge (v4 123 20) 10 then (v4 123 20) - 10 else 10 - (v4 123 20); (let v10 : Int32 := bif m_cmp .le v9 (v4 123 24) then v4 123 24 else v9; (Fr.uset (s1 := (uset (uset (uset (uset v4 139 t v5) 140 t v6) 141 (2 * t) v7) 141 (2 * t + 1) v8)) (a := 123) (j := 24) (x := v10) (by rfl) (Fr.uset (s1 := (uset (uset (uset v4 139 t v5) 140 t v6) 141 (2 * t) v7)) (a := 141) (j := 2 * t + 1) (x := v8) (by rfl) (Fr.uset (s1 := (uset (uset v4 139 t v5) 140 t v6)) (a := 141) (j := 2 * t) (x := v7) (by rfl) (Fr.uset (s1 := (uset v4 139 t v5)) (a := 140) (j := t) (x := v6) (by rfl) (Fr.uset (s1 := v4) (a := 139) (j := t) (x := v5) (by rfl) (Fr.bif (b := m_cmp .ne (z2 123 21) (-1)) (s1 := z2) (s2 := (F_goes z2 t)) (frItrB (W := W_goesBy) (m := (fun x : SG => x)) (f := (B_goesBy_20 t)) 8 (fun ii aa hh => Fr.wk (W2 := W_goesBy) (fr_B_goesBy_20 t ii aa  hh) (by rfl)) 8 0 (uset (uset (uset z1 136 0 0) 136 1 0) 142 t 0) (by omega) (Fr.uset (s1 := (uset (uset z1 136 0 0) 136 1 0)) (a := 142) (j := t) (x := 0) (by rfl) (Fr.uset (s1 := (uset z1 136 0 0)) (a := 136) (j := 1) (x := 0) (by rfl) (Fr.uset (s1 := z1) (a := 136) (j := 0) (x := 0) (by rfl) (Fr.tr (s1 := s) (Fr.rf _ _) (Fr.wk (W2 := W_goesBy) (fr_befalls s t) (by rfl))))))) (Fr.tr (s1 := z2) (frItrB (W := W_goesBy) (m := (fun x : SG => x)) (f := (B_goesBy_20 t)) 8 (fun ii aa hh => Fr.wk (W2 := W_goesBy) (fr_B_goesBy_20 t ii aa  hh) (by rfl)) 8 0 (uset (uset (uset z1 136 0 0) 136 1 0) 142 t 0) (by omega) (Fr.uset (s1 := (uset (uset z1 136 0 0) 136 1 0)) (a := 142) (j := t) (x := 0) (by rfl) (Fr.uset (s1 := (uset z1 136 0 0)) (a := 136) (j := 1) (x := 0) (by rfl) (Fr.uset (s1 := z1) (a := 136) (j := 0) (x := 0) (by rfl) (Fr.tr (s1 := s) (Fr.rf _ _) (Fr.wk (W2 := W_goesBy) (fr_befalls s t) (by rfl))))))) (Fr.wk (W2 := W_goesBy) (fr_goes z2 t) (by rfl))))))))))))))))))
theorem ux_goesBy (s : SG) (t : Nat) (ht : t < 24) : UP m_X7_goesBy 0 (m_ent 3 [.ref 123, .int (Int32.ofNat t)]) [] s (Qv (F_goesBy s t)) := by
  refine UP.stp 2 (i1 := 2) (L1 := [some (.ref 123), some (.int (Int32.ofNat t)), none]) (st1 := [.int (Int32.ofNat t), .ref 123]) (s1 := s) rfl ?_
  refine UP.cV (M1 := m_X7_befalls) (as := [.ref 123, .int (Int32.ofNat t)]) (rest := []) (T := F_befalls s t) rfl rfl (ux_befalls s t) (fun z1 e1 => ?_)
  refine UP.stp 14 (i1 := 17) (L1 := [some (.ref 123), some (.int (Int32.ofNat t)), none]) (st1 := [.int 0, .int (Int32.ofNat t), .ref 142]) (s1 := (uset (uset z1 136 0 0) 136 1 0)) rfl ?_
  refine UP.ast (e := t) rfl rfl (by omega) ?_
  show UP m_X7_goesBy 18 [some (.ref 123), some (.int (Int32.ofNat t)), none] [] (uset (uset (uset z1 136 0 0) 136 1 0) 142 t 0) (Qv (F_goesBy s t))
  refine UP.stp 2 (i1 := 20) (L1 := [some (.ref 123), some (.int (Int32.ofNat t)), some (.int 0)]) (st1 := []) (s1 := (uset (uset (uset z1 136 0 0) 136 1 0) 142 t 0)) rfl ?_
  refine lp (fun (i2 : Nat) (a2 : SG) => UP m_X7_goesBy 20 [some (.ref 123), some (.int (Int32.ofNat t)), some (.int (Int32.ofNat i2))] [] a2 (Qv (F_goesBy s t))) (fun (_ : Nat) (a2 : SG) => Fr W_goesBy (uset (uset (uset z1 136 0 0) 136 1 0) 142 t 0) a2) (B_goesBy_20 t) (8) (fun i2 a2 hi2 g2 => g2.tr (fr_B_goesBy_20 t i2 a2 hi2)) (fun i2 a2 hi2 g2 kk => ?_) 8 (0) (uset (uset (uset z1 136 0 0) 136 1 0) 142 t 0) (by  omega) (Fr.rf _ _) (fun z2 e2 g2 => ?_)
  · skip
    refine UP.stp 2 (i1 := 22) (L1 := [some (.ref 123), some (.int (Int32.ofNat t)), some (.int (Int32.ofNat i2))]) (st1 := [.int 8, .int (Int32.ofNat i2)]) (s1 := a2) rfl ?_
    refine UP.icF rfl (ge_F (show i2 < (8 : Int32).toNatClampNeg from hi2)) ?_
    refine UP.stp 8 (i1 := 31) (L1 := [some (.ref 123), some (.int (Int32.ofNat t)), some (.int (Int32.ofNat i2))]) (st1 := [.int 0, .int ((8 * (Int32.ofNat t)) + (Int32.ofNat i2)), .ref 143]) (s1 := a2) rfl ?_
    refine UP.ast (e := 8 * t + i2) rfl (ofn_add (ofn_mul rfl rfl) rfl) (by omega) ?_
    show UP m_X7_goesBy 32 [some (.ref 123), some (.int (Int32.ofNat t)), some (.int (Int32.ofNat i2))] [] (uset a2 143 (8 * t + i2) 0) (Qv (F_goesBy s t))
    refine UP.stp 2 (i1 := 20) (L1 := [some (.ref 123), some (.int (Int32.ofNat t)), some (.int ((Int32.ofNat i2) + 1))]) (st1 := []) (s1 := (uset a2 143 (8 * t + i2) 0)) rfl ?_
    rw [ofn_s]
    try dsimp only [B_goesBy_20] at kk
    exact kk
  refine UP.stp 2 (i1 := 22) (L1 := [some (.ref 123), some (.int (Int32.ofNat t)), some (.int (Int32.ofNat 8))]) (st1 := [.int 8, .int (Int32.ofNat 8)]) (s1 := z2) rfl ?_
  refine UP.icT rfl (ge_T (8 : Int32)) ?_
  refine UP.stp 3 (i1 := 37) (L1 := [some (.ref 123), some (.int (Int32.ofNat t)), some (.int (Int32.ofNat 8))]) (st1 := [.int (-1), .int (z2 123 21)]) (s1 := z2) rfl ?_
  refine mrg (m_cmp .ne (z2 123 21) (-1)) z2 (F_goes z2 t) (fun v4 : SG => UP m_X7_goesBy 41 [some (.ref 123), some (.int (Int32.ofNat t)), some (.int (Int32.ofNat 8))] [] v4 (Qv (F_goesBy s t))) (fun cc kk => ?_) (fun cc kk => ?_) (fun v4 e4 => ?_)
  · skip
    refine UP.icT rfl cc ?_
    exact kk
  · skip
    refine UP.icF rfl cc ?_
    refine UP.stp 2 (i1 := 40) (L1 := [some (.ref 123), some (.int (Int32.ofNat t)), some (.int (Int32.ofNat 8))]) (st1 := [.int (Int32.ofNat t), .ref 123]) (s1 := z2) rfl ?_
    refine UP.cV (M1 := m_X7_goes) (as := [.ref 123, .int (Int32.ofNat t)]) (rest := []) (T := F_goes z2 t) rfl rfl (ux_goes z2 t ht) (fun z3 e3 => ?_)
    subst e3
    exact kk
  refine UP.stp 5 (i1 := 46) (L1 := [some (.ref 123), some (.int (Int32.ofNat t)), some (.int (Int32.ofNat 8))]) (st1 := [.int (v4 123 19), .int (Int32.ofNat t), .ref 139]) (s1 := v4) rfl ?_
  refine nm (G := fun v5 => UP m_X7_goesBy 46 [some (.ref 123), some (.int (Int32.ofNat t)), some (.int (Int32.ofNat 8))] [.int v5, .int (Int32.ofNat t), .ref 139] v4 (Qv (F_goesBy s t))) (v4 123 19) (fun v5 e5 => ?_)
  refine UP.ast (e := t) rfl rfl (by omega) ?_
  show UP m_X7_goesBy 47 [some (.ref 123), some (.int (Int32.ofNat t)), some (.int (Int32.ofNat 8))] [] (uset v4 139 t v5) (Qv (F_goesBy s t))
  refine UP.stp 5 (i1 := 52) (L1 := [some (.ref 123), some (.int (Int32.ofNat t)), some (.int (Int32.ofNat 8))]) (st1 := [.int (v4 123 20), .int (Int32.ofNat t), .ref 140]) (s1 := (uset v4 139 t v5)) rfl ?_
  refine nm (G := fun v6 => UP m_X7_goesBy 52 [some (.ref 123), some (.int (Int32.ofNat t)), some (.int (Int32.ofNat 8))] [.int v6, .int (Int32.ofNat t), .ref 140] (uset v4 139 t v5) (Qv (F_goesBy s t))) (v4 123 20) (fun v6 e6 => ?_)
  refine UP.ast (e := t) rfl rfl (by omega) ?_
  show UP m_X7_goesBy 53 [some (.ref 123), some (.int (Int32.ofNat t)), some (.int (Int32.ofNat 8))] [] (uset (uset v4 139 t v5) 140 t v6) (Qv (F_goesBy s t))
  refine UP.stp 9 (i1 := 62) (L1 := [some (.ref 123), some (.int (Int32.ofNat t)), some (.int (Int32.ofNat 8))]) (st1 := [.int (v4 136 0), .int (2 * (Int32.ofNat t)), .ref 141]) (s1 := (uset (uset v4 139 t v5) 140 t v6)) rfl ?_
  refine nm (G := fun v7 => UP m_X7_goesBy 62 [some (.ref 123), some (.int (Int32.ofNat t)), some (.int (Int32.ofNat 8))] [.int v7, .int (2 * (Int32.ofNat t)), .ref 141] (uset (uset v4 139 t v5) 140 t v6) (Qv (F_goesBy s t))) (v4 136 0) (fun v7 e7 => ?_)
  refine UP.ast (e := 2 * t) rfl (ofn_mul rfl rfl) (by omega) ?_
  show UP m_X7_goesBy 63 [some (.ref 123), some (.int (Int32.ofNat t)), some (.int (Int32.ofNat 8))] [] (uset (uset (uset v4 139 t v5) 140 t v6) 141 (2 * t) v7) (Qv (F_goesBy s t))
  refine UP.stp 11 (i1 := 74) (L1 := [some (.ref 123), some (.int (Int32.ofNat t)), some (.int (Int32.ofNat 8))]) (st1 := [.int (v4 136 1), .int ((2 * (Int32.ofNat t)) + 1), .ref 141]) (s1 := (uset (uset (uset v4 139 t v5) 140 t v6) 141 (2 * t) v7)) rfl ?_
  refine nm (G := fun v8 => UP m_X7_goesBy 74 [some (.ref 123), some (.int (Int32.ofNat t)), some (.int (Int32.ofNat 8))] [.int v8, .int ((2 * (Int32.ofNat t)) + 1), .ref 141] (uset (uset (uset v4 139 t v5) 140 t v6) 141 (2 * t) v7) (Qv (F_goesBy s t))) (v4 136 1) (fun v8 e8 => ?_)
  refine UP.ast (e := 2 * t + 1) rfl (ofn_add (ofn_mul rfl rfl) rfl) (by omega) ?_
  show UP m_X7_goesBy 75 [some (.ref 123), some (.int (Int32.ofNat t)), some (.int (Int32.ofNat 8))] [] (uset (uset (uset (uset v4 139 t v5) 140 t v6) 141 (2 * t) v7) 141 (2 * t + 1) v8) (Qv (F_goesBy s t))
  refine UP.stp 3 (i1 := 78) (L1 := [some (.ref 123), some (.int (Int32.ofNat t)), some (.int (Int32.ofNat 8))]) (st1 := [.int 10, .int (v4 123 20)]) (s1 := (uset (uset (uset (uset v4 139 t v5) 140 t v6) 141 (2 * t) v7) 141 (2 * t + 1) v8)) rfl ?_
  refine mrg (m_cmp .ge (v4 123 20) 10) ((v4 123 20) - 10) (10 - (v4 123 20)) (fun v9 : Int32 => UP m_X7_goesBy 88 [some (.ref 123), some (.int (Int32.ofNat t)), some (.int (Int32.ofNat 8))] [.int v9] (uset (uset (uset (uset v4 139 t v5) 140 t v6) 141 (2 * t) v7) 141 (2 * t + 1) v8) (Qv (F_goesBy s t))) (fun cc kk => ?_) (fun cc kk => ?_) (fun v9 e9 => ?_)
  · skip
    refine UP.icT rfl cc ?_
    refine UP.stp 4 (i1 := 88) (L1 := [some (.ref 123), some (.int (Int32.ofNat t)), some (.int (Int32.ofNat 8))]) (st1 := [.int ((v4 123 20) - 10)]) (s1 := (uset (uset (uset (uset v4 139 t v5) 140 t v6) 141 (2 * t) v7) 141 (2 * t + 1) v8)) rfl ?_
    exact kk
  · skip
    refine UP.icF rfl cc ?_
    refine UP.stp 5 (i1 := 88) (L1 := [some (.ref 123), some (.int (Int32.ofNat t)), some (.int (Int32.ofNat 8))]) (st1 := [.int (10 - (v4 123 20))]) (s1 := (uset (uset (uset (uset v4 139 t v5) 140 t v6) 141 (2 * t) v7) 141 (2 * t + 1) v8)) rfl ?_
    exact kk
  refine UP.stp 5 (i1 := 93) (L1 := [some (.ref 123), some (.int (Int32.ofNat t)), some (.int v9)]) (st1 := [.int (v4 123 24), .int v9, .ref 123]) (s1 := (uset (uset (uset (uset v4 139 t v5) 140 t v6) 141 (2 * t) v7) 141 (2 * t + 1) v8)) rfl ?_
  refine mrg (m_cmp .le v9 (v4 123 24)) (v4 123 24) v9 (fun v10 : Int32 => UP m_X7_goesBy 98 [some (.ref 123), some (.int (Int32.ofNat t)), some (.int v9)] [.int v10, .ref 123] (uset (uset (uset (uset v4 139 t v5) 140 t v6) 141 (2 * t) v7) 141 (2 * t + 1) v8) (Qv (F_goesBy s t))) (fun cc kk => ?_) (fun cc kk => ?_) (fun v10 e10 => ?_)
  · skip
    refine UP.icT rfl cc ?_
    refine UP.stp 2 (i1 := 98) (L1 := [some (.ref 123), some (.int (Int32.ofNat t)), some (.int v9)]) (st1 := [.int (v4 123 24), .ref 123]) (s1 := (uset (uset (uset (uset v4 139 t v5) 140 t v6) 141 (2 * t) v7) 141 (2 * t + 1) v8)) rfl ?_
    exact kk
  · skip
    refine UP.icF rfl cc ?_
    refine UP.stp 2 (i1 := 98) (L1 := [some (.ref 123), some (.int (Int32.ofNat t)), some (.int v9)]) (st1 := [.int v9, .ref 123]) (s1 := (uset (uset (uset (uset v4 139 t v5) 140 t v6) 141 (2 * t) v7) 141 (2 * t + 1) v8)) rfl ?_
    exact kk
  refine UP.stp 1 (i1 := 99) (L1 := [some (.ref 123), some (.int (Int32.ofNat t)), some (.int v9)]) (st1 := []) (s1 := (uset (uset (uset (uset (uset v4 139 t v5) 140 t v6) 141 (2 * t) v7) 141 (2 * t + 1) v8) 123 24 v10)) rfl ?_
  exact UP.ret (r := none) rfl ⟨by subst e10 e9 e8 e7 e6 e5 e4 e2 e1; first | (dsimp only [F_goesBy]; done) | (dsimp only; done) | rfl, by subst e10 e9 e8 e7 e6 e5 e4 e2 e1; first | (dsimp only [F_goesBy]; done) | (dsimp only; done) | rfl⟩
def W_runs : List (Nat × Nat × Option Nat) := [(136, 143, none), (123, 123, some 19), (123, 123, some 20), (123, 123, some 21), (123, 123, some 22), (123, 123, some 23), (123, 123, some 24), (123, 123, some 25), (123, 123, some 26), (123, 123, some 27)]
def B_runs_20  (i1 : Nat) (a1 : SG) : SG := (uset (uset a1 137 i1 0) 138 i1 0)
theorem fr_B_runs_20  (i1 : Nat) (a1 : SG)  (hi1 : i1 < 8) : Fr W_runs a1 ((B_runs_20) i1 a1) := by dsimp only [B_runs_20]; exact (Fr.uset (s1 := (uset a1 137 i1 0)) (a := 138) (j := i1) (x := 0) (by rfl) (Fr.uset (s1 := a1) (a := 137) (j := i1) (x := 0) (by rfl) (Fr.rf _ _)))
def B_runs_37  (i2 : Nat) (a2 : SG) : SG := let z3 := F_goesBy a2 i2; z3
theorem fr_B_runs_37  (i2 : Nat) (a2 : SG)  (hi2 : i2 < 24) : Fr W_runs a2 ((B_runs_37) i2 a2) := by dsimp only [B_runs_37]; exact (Fr.tr (s1 := a2) (Fr.rf _ _) (Fr.wk (W2 := W_runs) (fr_goesBy a2 i2) (by rfl)))
def F_runs (s : SG)  : SG := let z1 := itr (B_runs_20) 0 8 (uset (uset (uset (uset (uset (uset s 123 19 0) 123 20 10) 123 21 (-1)) 123 22 0) 123 23 (-1)) 123 24 0); let z2 := itr (B_runs_37) 0 24 z1; z2
theorem fr_runs (s : SG)   : Fr W_runs s (F_runs s) := by dsimp only [F_runs]; exact (let z1 : SG := itr (B_runs_20) 0 8 (uset (uset (uset (uset (uset (uset s 123 19 0) 123 20 10) 123 21 (-1)) 123 22 0) 123 23 (-1)) 123 24 0); (frItrB (W := W_runs) (m := (fun x : SG => x)) (f := (B_runs_37)) 24 (fun ii aa hh => Fr.wk (W2 := W_runs) (fr_B_runs_37  ii aa  hh) (by rfl)) 24 0 z1 (by omega) (frItrB (W := W_runs) (m := (fun x : SG => x)) (f := (B_runs_20)) 8 (fun ii aa hh => Fr.wk (W2 := W_runs) (fr_B_runs_20  ii aa  hh) (by rfl)) 8 0 (uset (uset (uset (uset (uset (uset s 123 19 0) 123 20 10) 123 21 (-1)) 123 22 0) 123 23 (-1)) 123 24 0) (by omega) (Fr.uset (s1 := (uset (uset (uset (uset (uset s 123 19 0) 123 20 10) 123 21 (-1)) 123 22 0) 123 23 (-1))) (a := 123) (j := 24) (x := 0) (by rfl) (Fr.uset (s1 := (uset (uset (uset (uset s 123 19 0) 123 20 10) 123 21 (-1)) 123 22 0)) (a := 123) (j := 23) (x := (-1)) (by rfl) (Fr.uset (s1 := (uset (uset (uset s 123 19 0) 123 20 10) 123 21 (-1))) (a := 123) (j := 22) (x := 0) (by rfl) (Fr.uset (s1 := (uset (uset s 123 19 0) 123 20 10)) (a := 123) (j := 21) (x := (-1)) (by rfl) (Fr.uset (s1 := (uset s 123 19 0)) (a := 123) (j := 20) (x := 10) (by rfl) (Fr.uset (s1 := s) (a := 123) (j := 19) (x := 0) (by rfl) (Fr.rf _ _))))))))))
theorem ux_runs (s : SG)   : UP m_X7_runs 0 (m_ent 2 [.ref 123]) [] s (Qv (F_runs s)) := by
  refine UP.stp 20 (i1 := 20) (L1 := [some (.ref 123), some (.int 0)]) (st1 := []) (s1 := (uset (uset (uset (uset (uset (uset s 123 19 0) 123 20 10) 123 21 (-1)) 123 22 0) 123 23 (-1)) 123 24 0)) rfl ?_
  refine lp (fun (i1 : Nat) (a1 : SG) => UP m_X7_runs 20 [some (.ref 123), some (.int (Int32.ofNat i1))] [] a1 (Qv (F_runs s))) (fun (_ : Nat) (a1 : SG) => Fr W_runs (uset (uset (uset (uset (uset (uset s 123 19 0) 123 20 10) 123 21 (-1)) 123 22 0) 123 23 (-1)) 123 24 0) a1) (B_runs_20) (8) (fun i1 a1 hi1 g1 => g1.tr (fr_B_runs_20  i1 a1 hi1)) (fun i1 a1 hi1 g1 kk => ?_) 8 (0) (uset (uset (uset (uset (uset (uset s 123 19 0) 123 20 10) 123 21 (-1)) 123 22 0) 123 23 (-1)) 123 24 0) (by  omega) (Fr.rf _ _) (fun z1 e1 g1 => ?_)
  · skip
    refine UP.stp 2 (i1 := 22) (L1 := [some (.ref 123), some (.int (Int32.ofNat i1))]) (st1 := [.int 8, .int (Int32.ofNat i1)]) (s1 := a1) rfl ?_
    refine UP.icF rfl (ge_F (show i1 < (8 : Int32).toNatClampNeg from hi1)) ?_
    refine UP.stp 4 (i1 := 27) (L1 := [some (.ref 123), some (.int (Int32.ofNat i1))]) (st1 := [.int 0, .int (Int32.ofNat i1), .ref 137]) (s1 := a1) rfl ?_
    refine UP.ast (e := i1) rfl rfl (by omega) ?_
    show UP m_X7_runs 28 [some (.ref 123), some (.int (Int32.ofNat i1))] [] (uset a1 137 i1 0) (Qv (F_runs s))
    refine UP.stp 4 (i1 := 32) (L1 := [some (.ref 123), some (.int (Int32.ofNat i1))]) (st1 := [.int 0, .int (Int32.ofNat i1), .ref 138]) (s1 := (uset a1 137 i1 0)) rfl ?_
    refine UP.ast (e := i1) rfl rfl (by omega) ?_
    show UP m_X7_runs 33 [some (.ref 123), some (.int (Int32.ofNat i1))] [] (uset (uset a1 137 i1 0) 138 i1 0) (Qv (F_runs s))
    refine UP.stp 2 (i1 := 20) (L1 := [some (.ref 123), some (.int ((Int32.ofNat i1) + 1))]) (st1 := []) (s1 := (uset (uset a1 137 i1 0) 138 i1 0)) rfl ?_
    rw [ofn_s]
    try dsimp only [B_runs_20] at kk
    exact kk
  refine UP.stp 2 (i1 := 22) (L1 := [some (.ref 123), some (.int (Int32.ofNat 8))]) (st1 := [.int 8, .int (Int32.ofNat 8)]) (s1 := z1) rfl ?_
  refine UP.icT rfl (ge_T (8 : Int32)) ?_
  refine UP.stp 2 (i1 := 37) (L1 := [some (.ref 123), some (.int 0)]) (st1 := []) (s1 := z1) rfl ?_
  refine lp (fun (i2 : Nat) (a2 : SG) => UP m_X7_runs 37 [some (.ref 123), some (.int (Int32.ofNat i2))] [] a2 (Qv (F_runs s))) (fun (_ : Nat) (a2 : SG) => Fr W_runs z1 a2) (B_runs_37) (24) (fun i2 a2 hi2 g2 => g2.tr (fr_B_runs_37  i2 a2 hi2)) (fun i2 a2 hi2 g2 kk => ?_) 24 (0) z1 (by  omega) (Fr.rf _ _) (fun z2 e2 g2 => ?_)
  · skip
    refine UP.stp 2 (i1 := 39) (L1 := [some (.ref 123), some (.int (Int32.ofNat i2))]) (st1 := [.int 24, .int (Int32.ofNat i2)]) (s1 := a2) rfl ?_
    refine UP.icF rfl (ge_F (show i2 < (24 : Int32).toNatClampNeg from hi2)) ?_
    refine UP.stp 2 (i1 := 42) (L1 := [some (.ref 123), some (.int (Int32.ofNat i2))]) (st1 := [.int (Int32.ofNat i2), .ref 123]) (s1 := a2) rfl ?_
    refine UP.cV (M1 := m_X7_goesBy) (as := [.ref 123, .int (Int32.ofNat i2)]) (rest := []) (T := F_goesBy a2 i2) rfl rfl (ux_goesBy a2 i2 hi2) (fun z3 e3 => ?_)
    refine UP.stp 2 (i1 := 37) (L1 := [some (.ref 123), some (.int ((Int32.ofNat i2) + 1))]) (st1 := []) (s1 := z3) rfl ?_
    subst e3
    rw [ofn_s]
    try dsimp only [B_runs_37] at kk
    exact kk
  refine UP.stp 2 (i1 := 39) (L1 := [some (.ref 123), some (.int (Int32.ofNat 24))]) (st1 := [.int 24, .int (Int32.ofNat 24)]) (s1 := z2) rfl ?_
  refine UP.icT rfl (ge_T (24 : Int32)) ?_
  exact UP.ret (r := none) rfl ⟨by subst e2 e1; first | (dsimp only [F_runs]; done) | (dsimp only; done) | rfl, by subst e2 e1; first | (dsimp only [F_runs]; done) | (dsimp only; done) | rfl⟩
