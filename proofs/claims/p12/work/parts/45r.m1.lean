/-! the model: a trip, as a function (printed by wip/u/mk_m1.py) -/
def W_isIn : List (Nat × Nat × Option Nat) := []
def F_isIn (s : SG) (b : Int32) (k : Int32) : Int32 := let v1 := bif m_cmp .ne ((b >>> (k &&& 31)) &&& 1) 1 then 0 else 1; v1
theorem ux_isIn (s : SG) (b : Int32) (k : Int32)  : UP m_X7_isIn 0 (m_ent 2 [.int b, .int k]) [] s (Qi s (F_isIn s b k)) := by
  refine UP.stp 6 (i1 := 6) (L1 := [some (.int b), some (.int k)]) (st1 := [.int 1, .int ((b >>> (k &&& 31)) &&& 1)]) (s1 := s) rfl ?_
  refine mrg (m_cmp .ne ((b >>> (k &&& 31)) &&& 1) 1) 0 1 (fun v1 : Int32 => UP m_X7_isIn 10 [some (.int b), some (.int k)] [.int v1] s _) (fun cc kk => ?_) (fun cc kk => ?_) (fun v1 e1 => ?_)
  · skip
    refine UP.icT rfl cc ?_
    refine UP.stp 1 (i1 := 10) (L1 := [some (.int b), some (.int k)]) (st1 := [.int 0]) (s1 := s) rfl ?_
    exact kk
  · skip
    refine UP.icF rfl cc ?_
    refine UP.stp 2 (i1 := 10) (L1 := [some (.int b), some (.int k)]) (st1 := [.int 1]) (s1 := s) rfl ?_
    exact kk
  exact UP.ret rfl ⟨by subst e1; rfl, by subst e1; rfl⟩
def W_befalls : List (Nat × Nat × Option Nat) := [(123, 123, some 25), (123, 123, some 26), (123, 123, some 27)]
def B_befalls_11 (t : Nat) (i1 : Nat) (a1 : SG) : SG := let v11 := bif m_cmp .ne (a1 131 i1) (Int32.ofNat t) then a1 else (bif m_cmp .ne (F_isIn a1 (a1 123 17) (Int32.ofNat i1)) 0 then a1 else (uset (uset (uset a1 123 25 ((a1 123 25) ||| (bif m_cmp .ne (a1 130 i1) 0 then 0 else 1 <<< ((a1 132 i1) &&& 31)))) 123 26 ((a1 123 26) + (bif m_cmp .ne (a1 130 i1) 1 then 0 else (bif m_cmp .ne ((a1 132 i1) - (a1 132 i1) / 2 * 2) 1 then (-2) else 2)))) 123 27 ((a1 123 27) + (bif m_cmp .ne (a1 130 i1) 2 then 0 else 3)))); v11
theorem fr_B_befalls_11 (t : Nat) (i1 : Nat) (a1 : SG) : Fr W_befalls a1 ((B_befalls_11 t) i1 a1) := (Fr.bif (Fr.rf _ _) (Fr.bif (Fr.rf _ _) (Fr.uset (by rfl) (Fr.uset (by rfl) (Fr.uset (by rfl) (Fr.rf _ _))))))
def F_befalls (s : SG) (t : Nat) : SG := let z1 := itr (B_befalls_11 t) 0 (((uset (uset (uset s 123 25 0) 123 26 0) 123 27 0) 123 11).toNatClampNeg) (uset (uset (uset s 123 25 0) 123 26 0) 123 27 0); z1
theorem fr_befalls (s : SG) (t : Nat)  : Fr W_befalls s (F_befalls s t) := (Fr.itr (m := (fun x : SG => x)) (fun i a => (fr_B_befalls_11 t i a).wk (by rfl)) _ _ _ (Fr.uset (by rfl) (Fr.uset (by rfl) (Fr.uset (by rfl) (Fr.rf _ _)))))
theorem ux_befalls (s : SG) (t : Nat)  : UP m_X7_befalls 0 (m_ent 3 [.ref 123, .int (Int32.ofNat t)]) [] s (Qv (F_befalls s t)) := by
  refine UP.stp 11 (i1 := 11) (L1 := [some (.ref 123), some (.int (Int32.ofNat t)), some (.int 0)]) (st1 := []) (s1 := (uset (uset (uset s 123 25 0) 123 26 0) 123 27 0)) rfl ?_
  refine lp (fun (i1 : Nat) (a1 : SG) => UP m_X7_befalls 11 [some (.ref 123), some (.int (Int32.ofNat t)), some (.int (Int32.ofNat i1))] [] a1 _) (fun (_ : Nat) (a1 : SG) => Fr W_befalls (uset (uset (uset s 123 25 0) 123 26 0) 123 27 0) a1) (B_befalls_11 t) (((uset (uset (uset s 123 25 0) 123 26 0) 123 27 0) 123 11).toNatClampNeg) (fun i1 a1 hi1 g1 => g1.tr (fr_B_befalls_11 t i1 a1)) (fun i1 a1 hi1 g1 kk => ?_) (((uset (uset (uset s 123 25 0) 123 26 0) 123 27 0) 123 11).toNatClampNeg) (0) (uset (uset (uset s 123 25 0) 123 26 0) 123 27 0) (by omega) (Fr.rf _ _) (fun z1 e1 g1 => ?_)
  · skip
    have hbi1 := cl_lt ((uset (uset (uset s 123 25 0) 123 26 0) 123 27 0) 123 11)
    refine UP.stp 3 (i1 := 14) (L1 := [some (.ref 123), some (.int (Int32.ofNat t)), some (.int (Int32.ofNat i1))]) (st1 := [.int (a1 123 11), .int (Int32.ofNat i1)]) (s1 := a1) rfl ?_
    refine UP.icF rfl (by rw [(g1 123 11 rfl)]; exact ge_F hi1) ?_
    refine UP.stp 3 (i1 := 18) (L1 := [some (.ref 123), some (.int (Int32.ofNat t)), some (.int (Int32.ofNat i1))]) (st1 := [.int (Int32.ofNat i1), .ref 131]) (s1 := a1) rfl ?_
    refine UP.ald (e := i1) rfl rfl (by omega) ?_
    show UP m_X7_befalls 19 [some (.ref 123), some (.int (Int32.ofNat t)), some (.int (Int32.ofNat i1))] [.int (a1 131 i1)] a1 _
    refine UP.stp 1 (i1 := 20) (L1 := [some (.ref 123), some (.int (Int32.ofNat t)), some (.int (Int32.ofNat i1))]) (st1 := [.int (Int32.ofNat t), .int (a1 131 i1)]) (s1 := a1) rfl ?_
    refine mrg (m_cmp .ne (a1 131 i1) (Int32.ofNat t)) a1 (bif m_cmp .ne (F_isIn a1 (a1 123 17) (Int32.ofNat i1)) 0 then a1 else (uset (uset (uset a1 123 25 ((a1 123 25) ||| (bif m_cmp .ne (a1 130 i1) 0 then 0 else 1 <<< ((a1 132 i1) &&& 31)))) 123 26 ((a1 123 26) + (bif m_cmp .ne (a1 130 i1) 1 then 0 else (bif m_cmp .ne ((a1 132 i1) - (a1 132 i1) / 2 * 2) 1 then (-2) else 2)))) 123 27 ((a1 123 27) + (bif m_cmp .ne (a1 130 i1) 2 then 0 else 3)))) (fun v11 : SG => UP m_X7_befalls 82 [some (.ref 123), some (.int (Int32.ofNat t)), some (.int (Int32.ofNat i1))] [] v11 _) (fun cc kk => ?_) (fun cc kk => ?_) (fun v11 e11 => ?_)
    · skip
      refine UP.icT rfl cc ?_
      exact kk
    · skip
      refine UP.icF rfl cc ?_
      refine UP.stp 3 (i1 := 24) (L1 := [some (.ref 123), some (.int (Int32.ofNat t)), some (.int (Int32.ofNat i1))]) (st1 := [.int (Int32.ofNat i1), .int (a1 123 17)]) (s1 := a1) rfl ?_
      refine UP.call (M1 := m_X7_isIn) (as := [.int (a1 123 17), .int (Int32.ofNat i1)]) (rest := []) rfl rfl (ux_isIn a1 (a1 123 17) (Int32.ofNat i1)) (fun r2 z2 q2 => ?_)
      obtain ⟨rfl, rfl⟩ := q2
      show UP m_X7_befalls 25 [some (.ref 123), some (.int (Int32.ofNat t)), some (.int (Int32.ofNat i1))] [.int (F_isIn a1 (a1 123 17) (Int32.ofNat i1))] a1 _
      refine mrg (m_cmp .ne (F_isIn a1 (a1 123 17) (Int32.ofNat i1)) 0) a1 (uset (uset (uset a1 123 25 ((a1 123 25) ||| (bif m_cmp .ne (a1 130 i1) 0 then 0 else 1 <<< ((a1 132 i1) &&& 31)))) 123 26 ((a1 123 26) + (bif m_cmp .ne (a1 130 i1) 1 then 0 else (bif m_cmp .ne ((a1 132 i1) - (a1 132 i1) / 2 * 2) 1 then (-2) else 2)))) 123 27 ((a1 123 27) + (bif m_cmp .ne (a1 130 i1) 2 then 0 else 3))) (fun v10 : SG => UP m_X7_befalls 82 [some (.ref 123), some (.int (Int32.ofNat t)), some (.int (Int32.ofNat i1))] [] v10 _) (fun cc kk => ?_) (fun cc kk => ?_) (fun v10 e10 => ?_)
      · skip
        refine UP.ifT rfl cc ?_
        exact kk
      · skip
        refine UP.ifF rfl cc ?_
        refine UP.stp 6 (i1 := 32) (L1 := [some (.ref 123), some (.int (Int32.ofNat t)), some (.int (Int32.ofNat i1))]) (st1 := [.int (Int32.ofNat i1), .ref 130, .int (a1 123 25), .ref 123]) (s1 := a1) rfl ?_
        refine UP.ald (e := i1) rfl rfl (by omega) ?_
        show UP m_X7_befalls 33 [some (.ref 123), some (.int (Int32.ofNat t)), some (.int (Int32.ofNat i1))] [.int (a1 130 i1), .int (a1 123 25), .ref 123] a1 _
        refine mrg (m_cmp .ne (a1 130 i1) 0) 0 (1 <<< ((a1 132 i1) &&& 31)) (fun v3 : Int32 => UP m_X7_befalls 42 [some (.ref 123), some (.int (Int32.ofNat t)), some (.int (Int32.ofNat i1))] [.int v3, .int (a1 123 25), .ref 123] a1 _) (fun cc kk => ?_) (fun cc kk => ?_) (fun v3 e3 => ?_)
        · skip
          refine UP.ifT rfl cc ?_
          refine UP.stp 1 (i1 := 42) (L1 := [some (.ref 123), some (.int (Int32.ofNat t)), some (.int (Int32.ofNat i1))]) (st1 := [.int 0, .int (a1 123 25), .ref 123]) (s1 := a1) rfl ?_
          exact kk
        · skip
          refine UP.ifF rfl cc ?_
          refine UP.stp 4 (i1 := 38) (L1 := [some (.ref 123), some (.int (Int32.ofNat t)), some (.int (Int32.ofNat i1))]) (st1 := [.int (Int32.ofNat i1), .ref 132, .int 1, .int (a1 123 25), .ref 123]) (s1 := a1) rfl ?_
          refine UP.ald (e := i1) rfl rfl (by omega) ?_
          show UP m_X7_befalls 39 [some (.ref 123), some (.int (Int32.ofNat t)), some (.int (Int32.ofNat i1))] [.int (a1 132 i1), .int 1, .int (a1 123 25), .ref 123] a1 _
          refine UP.stp 2 (i1 := 42) (L1 := [some (.ref 123), some (.int (Int32.ofNat t)), some (.int (Int32.ofNat i1))]) (st1 := [.int (1 <<< ((a1 132 i1) &&& 31)), .int (a1 123 25), .ref 123]) (s1 := a1) rfl ?_
          exact kk
        refine UP.stp 1 (i1 := 43) (L1 := [some (.ref 123), some (.int (Int32.ofNat t)), some (.int (Int32.ofNat i1))]) (st1 := [.int ((a1 123 25) ||| v3), .ref 123]) (s1 := a1) rfl ?_
        refine nm (G := fun v4 => UP m_X7_befalls 43 [some (.ref 123), some (.int (Int32.ofNat t)), some (.int (Int32.ofNat i1))] [.int v4, .ref 123] a1 _) ((a1 123 25) ||| v3) (fun v4 e4 => ?_)
        refine UP.stp 7 (i1 := 50) (L1 := [some (.ref 123), some (.int (Int32.ofNat t)), some (.int (Int32.ofNat i1))]) (st1 := [.int (Int32.ofNat i1), .ref 130, .int (a1 123 26), .ref 123]) (s1 := (uset a1 123 25 v4)) rfl ?_
        refine UP.ald (e := i1) rfl rfl (by omega) ?_
        show UP m_X7_befalls 51 [some (.ref 123), some (.int (Int32.ofNat t)), some (.int (Int32.ofNat i1))] [.int (a1 130 i1), .int (a1 123 26), .ref 123] (uset a1 123 25 v4) _
        refine UP.stp 1 (i1 := 52) (L1 := [some (.ref 123), some (.int (Int32.ofNat t)), some (.int (Int32.ofNat i1))]) (st1 := [.int 1, .int (a1 130 i1), .int (a1 123 26), .ref 123]) (s1 := (uset a1 123 25 v4)) rfl ?_
        refine mrg (m_cmp .ne (a1 130 i1) 1) 0 (bif m_cmp .ne ((a1 132 i1) - (a1 132 i1) / 2 * 2) 1 then (-2) else 2) (fun v6 : Int32 => UP m_X7_befalls 66 [some (.ref 123), some (.int (Int32.ofNat t)), some (.int (Int32.ofNat i1))] [.int v6, .int (a1 123 26), .ref 123] (uset a1 123 25 v4) _) (fun cc kk => ?_) (fun cc kk => ?_) (fun v6 e6 => ?_)
        · skip
          refine UP.icT rfl cc ?_
          refine UP.stp 1 (i1 := 66) (L1 := [some (.ref 123), some (.int (Int32.ofNat t)), some (.int (Int32.ofNat i1))]) (st1 := [.int 0, .int (a1 123 26), .ref 123]) (s1 := (uset a1 123 25 v4)) rfl ?_
          exact kk
        · skip
          refine UP.icF rfl cc ?_
          refine UP.stp 3 (i1 := 56) (L1 := [some (.ref 123), some (.int (Int32.ofNat t)), some (.int (Int32.ofNat i1))]) (st1 := [.int (Int32.ofNat i1), .ref 132, .int (a1 123 26), .ref 123]) (s1 := (uset a1 123 25 v4)) rfl ?_
          refine UP.ald (e := i1) rfl rfl (by omega) ?_
          show UP m_X7_befalls 57 [some (.ref 123), some (.int (Int32.ofNat t)), some (.int (Int32.ofNat i1))] [.int (a1 132 i1), .int (a1 123 26), .ref 123] (uset a1 123 25 v4) _
          refine UP.stp 3 (i1 := 60) (L1 := [some (.ref 123), some (.int (Int32.ofNat t)), some (.int (Int32.ofNat i1))]) (st1 := [.int 1, .int ((a1 132 i1) - (a1 132 i1) / 2 * 2), .int (a1 123 26), .ref 123]) (s1 := (uset a1 123 25 v4)) rfl ?_
          refine mrg (m_cmp .ne ((a1 132 i1) - (a1 132 i1) / 2 * 2) 1) (-2) 2 (fun v5 : Int32 => UP m_X7_befalls 66 [some (.ref 123), some (.int (Int32.ofNat t)), some (.int (Int32.ofNat i1))] [.int v5, .int (a1 123 26), .ref 123] (uset a1 123 25 v4) _) (fun cc kk => ?_) (fun cc kk => ?_) (fun v5 e5 => ?_)
          · skip
            refine UP.icT rfl cc ?_
            refine UP.stp 2 (i1 := 66) (L1 := [some (.ref 123), some (.int (Int32.ofNat t)), some (.int (Int32.ofNat i1))]) (st1 := [.int (-2), .int (a1 123 26), .ref 123]) (s1 := (uset a1 123 25 v4)) rfl ?_
            exact kk
          · skip
            refine UP.icF rfl cc ?_
            refine UP.stp 2 (i1 := 66) (L1 := [some (.ref 123), some (.int (Int32.ofNat t)), some (.int (Int32.ofNat i1))]) (st1 := [.int 2, .int (a1 123 26), .ref 123]) (s1 := (uset a1 123 25 v4)) rfl ?_
            exact kk
          subst e5
          exact kk
        refine UP.stp 1 (i1 := 67) (L1 := [some (.ref 123), some (.int (Int32.ofNat t)), some (.int (Int32.ofNat i1))]) (st1 := [.int ((a1 123 26) + v6), .ref 123]) (s1 := (uset a1 123 25 v4)) rfl ?_
        refine nm (G := fun v7 => UP m_X7_befalls 67 [some (.ref 123), some (.int (Int32.ofNat t)), some (.int (Int32.ofNat i1))] [.int v7, .ref 123] (uset a1 123 25 v4) _) ((a1 123 26) + v6) (fun v7 e7 => ?_)
        refine UP.stp 7 (i1 := 74) (L1 := [some (.ref 123), some (.int (Int32.ofNat t)), some (.int (Int32.ofNat i1))]) (st1 := [.int (Int32.ofNat i1), .ref 130, .int (a1 123 27), .ref 123]) (s1 := (uset (uset a1 123 25 v4) 123 26 v7)) rfl ?_
        refine UP.ald (e := i1) rfl rfl (by omega) ?_
        show UP m_X7_befalls 75 [some (.ref 123), some (.int (Int32.ofNat t)), some (.int (Int32.ofNat i1))] [.int (a1 130 i1), .int (a1 123 27), .ref 123] (uset (uset a1 123 25 v4) 123 26 v7) _
        refine UP.stp 1 (i1 := 76) (L1 := [some (.ref 123), some (.int (Int32.ofNat t)), some (.int (Int32.ofNat i1))]) (st1 := [.int 2, .int (a1 130 i1), .int (a1 123 27), .ref 123]) (s1 := (uset (uset a1 123 25 v4) 123 26 v7)) rfl ?_
        refine mrg (m_cmp .ne (a1 130 i1) 2) 0 3 (fun v8 : Int32 => UP m_X7_befalls 80 [some (.ref 123), some (.int (Int32.ofNat t)), some (.int (Int32.ofNat i1))] [.int v8, .int (a1 123 27), .ref 123] (uset (uset a1 123 25 v4) 123 26 v7) _) (fun cc kk => ?_) (fun cc kk => ?_) (fun v8 e8 => ?_)
        · skip
          refine UP.icT rfl cc ?_
          refine UP.stp 1 (i1 := 80) (L1 := [some (.ref 123), some (.int (Int32.ofNat t)), some (.int (Int32.ofNat i1))]) (st1 := [.int 0, .int (a1 123 27), .ref 123]) (s1 := (uset (uset a1 123 25 v4) 123 26 v7)) rfl ?_
          exact kk
        · skip
          refine UP.icF rfl cc ?_
          refine UP.stp 2 (i1 := 80) (L1 := [some (.ref 123), some (.int (Int32.ofNat t)), some (.int (Int32.ofNat i1))]) (st1 := [.int 3, .int (a1 123 27), .ref 123]) (s1 := (uset (uset a1 123 25 v4) 123 26 v7)) rfl ?_
          exact kk
        refine UP.stp 1 (i1 := 81) (L1 := [some (.ref 123), some (.int (Int32.ofNat t)), some (.int (Int32.ofNat i1))]) (st1 := [.int ((a1 123 27) + v8), .ref 123]) (s1 := (uset (uset a1 123 25 v4) 123 26 v7)) rfl ?_
        refine nm (G := fun v9 => UP m_X7_befalls 81 [some (.ref 123), some (.int (Int32.ofNat t)), some (.int (Int32.ofNat i1))] [.int v9, .ref 123] (uset (uset a1 123 25 v4) 123 26 v7) _) ((a1 123 27) + v8) (fun v9 e9 => ?_)
        refine UP.stp 1 (i1 := 82) (L1 := [some (.ref 123), some (.int (Int32.ofNat t)), some (.int (Int32.ofNat i1))]) (st1 := []) (s1 := (uset (uset (uset a1 123 25 v4) 123 26 v7) 123 27 v9)) rfl ?_
        subst e9 e8 e7 e6 e4 e3
        exact kk
      subst e10
      exact kk
    refine UP.stp 2 (i1 := 11) (L1 := [some (.ref 123), some (.int (Int32.ofNat t)), some (.int ((Int32.ofNat i1) + 1))]) (st1 := []) (s1 := v11) rfl ?_
    subst e11
    rw [ofn_s]
    exact kk
  refine UP.stp 3 (i1 := 14) (L1 := [some (.ref 123), some (.int (Int32.ofNat t)), some (.int (Int32.ofNat (((uset (uset (uset s 123 25 0) 123 26 0) 123 27 0) 123 11).toNatClampNeg)))]) (st1 := [.int (z1 123 11), .int (Int32.ofNat (((uset (uset (uset s 123 25 0) 123 26 0) 123 27 0) 123 11).toNatClampNeg))]) (s1 := z1) rfl ?_
  refine UP.icT rfl (by rw [(g1 123 11 rfl)]; exact ge_T _) ?_
  exact UP.ret rfl ⟨by subst e1; rfl, by subst e1; rfl⟩
def W_pullsOne : List (Nat × Nat × Option Nat) := [(136, 138, none), (143, 143, none)]
def F_pullsOne (s : SG) (t : Nat) (k : Nat) : SG := let v1 := bif m_cmp .ge (s 137 k) 6 then 0 else 1; let v2 := s 127 k; let v10 := bif m_cmp .ne (s 126 k) 1 then (bif m_cmp .ne (s 126 k) 2 then 0 else (bif m_cmp .eq v1 0 then 1 else (-1))) else (bif m_cmp .eq v1 0 then (-1) else 2); let v11 := v2 + v10; let v12 := (s 137 k) + 1; let v13 := (s 138 k) + v11; let v14 := (s 136 (((s 135 k) - (s 135 k) / 2 * 2).toNatClampNeg)) + v11; (uset (uset (uset (uset s 143 (8 * t + k) v11) 137 k v12) 138 k v13) 136 (((s 135 k) - (s 135 k) / 2 * 2).toNatClampNeg) v14)
theorem fr_pullsOne (s : SG) (t : Nat) (k : Nat)  : Fr W_pullsOne s (F_pullsOne s t k) := (Fr.uset (by rfl) (Fr.uset (by rfl) (Fr.uset (by rfl) (Fr.uset (by rfl) (Fr.rf _ _)))))
theorem ux_pullsOne (s : SG) (t : Nat) (k : Nat) (ht : t < 24) (hk : k < 2147483648) : UP m_X7_pullsOne 0 (m_ent 5 [.ref 123, .int (Int32.ofNat t), .int (Int32.ofNat k)]) [] s (Qv (F_pullsOne s t k)) := by
  refine UP.stp 3 (i1 := 3) (L1 := [some (.ref 123), some (.int (Int32.ofNat t)), some (.int (Int32.ofNat k)), none, none]) (st1 := [.int (Int32.ofNat k), .ref 137]) (s1 := s) rfl ?_
  refine UP.ald (e := k) rfl rfl (by omega) ?_
  show UP m_X7_pullsOne 4 [some (.ref 123), some (.int (Int32.ofNat t)), some (.int (Int32.ofNat k)), none, none] [.int (s 137 k)] s _
  refine UP.stp 1 (i1 := 5) (L1 := [some (.ref 123), some (.int (Int32.ofNat t)), some (.int (Int32.ofNat k)), none, none]) (st1 := [.int 6, .int (s 137 k)]) (s1 := s) rfl ?_
  refine mrg (m_cmp .ge (s 137 k) 6) 0 1 (fun v1 : Int32 => UP m_X7_pullsOne 9 [some (.ref 123), some (.int (Int32.ofNat t)), some (.int (Int32.ofNat k)), none, none] [.int v1] s _) (fun cc kk => ?_) (fun cc kk => ?_) (fun v1 e1 => ?_)
  · skip
    refine UP.icT rfl cc ?_
    refine UP.stp 1 (i1 := 9) (L1 := [some (.ref 123), some (.int (Int32.ofNat t)), some (.int (Int32.ofNat k)), none, none]) (st1 := [.int 0]) (s1 := s) rfl ?_
    exact kk
  · skip
    refine UP.icF rfl cc ?_
    refine UP.stp 2 (i1 := 9) (L1 := [some (.ref 123), some (.int (Int32.ofNat t)), some (.int (Int32.ofNat k)), none, none]) (st1 := [.int 1]) (s1 := s) rfl ?_
    exact kk
  refine UP.stp 4 (i1 := 13) (L1 := [some (.ref 123), some (.int (Int32.ofNat t)), some (.int (Int32.ofNat k)), some (.int v1), none]) (st1 := [.int (Int32.ofNat k), .ref 127]) (s1 := s) rfl ?_
  refine UP.ald (e := k) rfl rfl (by omega) ?_
  show UP m_X7_pullsOne 14 [some (.ref 123), some (.int (Int32.ofNat t)), some (.int (Int32.ofNat k)), some (.int v1), none] [.int (s 127 k)] s _
  refine nm (G := fun v2 => UP m_X7_pullsOne 14 [some (.ref 123), some (.int (Int32.ofNat t)), some (.int (Int32.ofNat k)), some (.int v1), none] [.int v2] s _) (s 127 k) (fun v2 e2 => ?_)
  refine UP.stp 5 (i1 := 19) (L1 := [some (.ref 123), some (.int (Int32.ofNat t)), some (.int (Int32.ofNat k)), some (.int v1), some (.int v2)]) (st1 := [.int (Int32.ofNat k), .ref 126, .int v2]) (s1 := s) rfl ?_
  refine UP.ald (e := k) rfl rfl (by omega) ?_
  show UP m_X7_pullsOne 20 [some (.ref 123), some (.int (Int32.ofNat t)), some (.int (Int32.ofNat k)), some (.int v1), some (.int v2)] [.int (s 126 k), .int v2] s _
  refine UP.stp 1 (i1 := 21) (L1 := [some (.ref 123), some (.int (Int32.ofNat t)), some (.int (Int32.ofNat k)), some (.int v1), some (.int v2)]) (st1 := [.int 1, .int (s 126 k), .int v2]) (s1 := s) rfl ?_
  refine mrg (m_cmp .ne (s 126 k) 1) (bif m_cmp .ne (s 126 k) 2 then 0 else (bif m_cmp .eq v1 0 then 1 else (-1))) (bif m_cmp .eq v1 0 then (-1) else 2) (fun v10 : Int32 => ∀ (u8 : Option Value) (u9 : Option Value), UP m_X7_pullsOne 41 [some (.ref 123), some (.int (Int32.ofNat t)), some (.int (Int32.ofNat k)), u8, u9] [.int v10, .int v2] s _) (fun cc kk => ?_) (fun cc kk => ?_) (fun v10 e10 u8 u9 => ?_)
  · skip
    refine UP.icT rfl cc ?_
    refine UP.stp 3 (i1 := 31) (L1 := [some (.ref 123), some (.int (Int32.ofNat t)), some (.int (Int32.ofNat k)), some (.int v1), some (.int v2)]) (st1 := [.int (Int32.ofNat k), .ref 126, .int v2]) (s1 := s) rfl ?_
    refine UP.ald (e := k) rfl rfl (by omega) ?_
    show UP m_X7_pullsOne 32 [some (.ref 123), some (.int (Int32.ofNat t)), some (.int (Int32.ofNat k)), some (.int v1), some (.int v2)] [.int (s 126 k), .int v2] s _
    refine UP.stp 1 (i1 := 33) (L1 := [some (.ref 123), some (.int (Int32.ofNat t)), some (.int (Int32.ofNat k)), some (.int v1), some (.int v2)]) (st1 := [.int 2, .int (s 126 k), .int v2]) (s1 := s) rfl ?_
    refine mrg (m_cmp .ne (s 126 k) 2) 0 (bif m_cmp .eq v1 0 then 1 else (-1)) (fun v6 : Int32 => ∀ (u4 : Option Value) (u5 : Option Value), UP m_X7_pullsOne 41 [some (.ref 123), some (.int (Int32.ofNat t)), some (.int (Int32.ofNat k)), u4, u5] [.int v6, .int v2] s _) (fun cc kk => ?_) (fun cc kk => ?_) (fun v6 e6 u4 u5 => ?_)
    · skip
      refine UP.icT rfl cc ?_
      refine UP.stp 1 (i1 := 41) (L1 := [some (.ref 123), some (.int (Int32.ofNat t)), some (.int (Int32.ofNat k)), some (.int v1), some (.int v2)]) (st1 := [.int 0, .int v2]) (s1 := s) rfl ?_
      exact kk _ _
    · skip
      refine UP.icF rfl cc ?_
      refine UP.stp 1 (i1 := 35) (L1 := [some (.ref 123), some (.int (Int32.ofNat t)), some (.int (Int32.ofNat k)), some (.int v1), some (.int v2)]) (st1 := [.int v1, .int v2]) (s1 := s) rfl ?_
      refine mrg (m_cmp .eq v1 0) 1 (-1) (fun v3 : Int32 => UP m_X7_pullsOne 41 [some (.ref 123), some (.int (Int32.ofNat t)), some (.int (Int32.ofNat k)), some (.int v1), some (.int v2)] [.int v3, .int v2] s _) (fun cc kk => ?_) (fun cc kk => ?_) (fun v3 e3 => ?_)
      · skip
        refine UP.ifT rfl cc ?_
        refine UP.stp 2 (i1 := 41) (L1 := [some (.ref 123), some (.int (Int32.ofNat t)), some (.int (Int32.ofNat k)), some (.int v1), some (.int v2)]) (st1 := [.int 1, .int v2]) (s1 := s) rfl ?_
        exact kk
      · skip
        refine UP.ifF rfl cc ?_
        refine UP.stp 2 (i1 := 41) (L1 := [some (.ref 123), some (.int (Int32.ofNat t)), some (.int (Int32.ofNat k)), some (.int v1), some (.int v2)]) (st1 := [.int (-1), .int v2]) (s1 := s) rfl ?_
        exact kk
      subst e3
      exact kk _ _
    subst e6
    exact kk _ _
  · skip
    refine UP.icF rfl cc ?_
    refine UP.stp 1 (i1 := 23) (L1 := [some (.ref 123), some (.int (Int32.ofNat t)), some (.int (Int32.ofNat k)), some (.int v1), some (.int v2)]) (st1 := [.int v1, .int v2]) (s1 := s) rfl ?_
    refine mrg (m_cmp .eq v1 0) (-1) 2 (fun v7 : Int32 => UP m_X7_pullsOne 41 [some (.ref 123), some (.int (Int32.ofNat t)), some (.int (Int32.ofNat k)), some (.int v1), some (.int v2)] [.int v7, .int v2] s _) (fun cc kk => ?_) (fun cc kk => ?_) (fun v7 e7 => ?_)
    · skip
      refine UP.ifT rfl cc ?_
      refine UP.stp 2 (i1 := 41) (L1 := [some (.ref 123), some (.int (Int32.ofNat t)), some (.int (Int32.ofNat k)), some (.int v1), some (.int v2)]) (st1 := [.int (-1), .int v2]) (s1 := s) rfl ?_
      exact kk
    · skip
      refine UP.ifF rfl cc ?_
      refine UP.stp 2 (i1 := 41) (L1 := [some (.ref 123), some (.int (Int32.ofNat t)), some (.int (Int32.ofNat k)), some (.int v1), some (.int v2)]) (st1 := [.int 2, .int v2]) (s1 := s) rfl ?_
      exact kk
    subst e7
    exact kk _ _
  refine UP.stp 1 (i1 := 42) (L1 := [some (.ref 123), some (.int (Int32.ofNat t)), some (.int (Int32.ofNat k)), u8, u9]) (st1 := [.int (v2 + v10)]) (s1 := s) rfl ?_
  refine nm (G := fun v11 => UP m_X7_pullsOne 42 [some (.ref 123), some (.int (Int32.ofNat t)), some (.int (Int32.ofNat k)), u8, u9] [.int v11] s _) (v2 + v10) (fun v11 e11 => ?_)
  refine UP.stp 9 (i1 := 51) (L1 := [some (.ref 123), some (.int (Int32.ofNat t)), some (.int (Int32.ofNat k)), u8, some (.int v11)]) (st1 := [.int v11, .int ((8 * (Int32.ofNat t)) + (Int32.ofNat k)), .ref 143]) (s1 := s) rfl ?_
  refine UP.ast (e := 8 * t + k) rfl (ofn_add (ofn_mul rfl rfl) rfl) (by omega) ?_
  show UP m_X7_pullsOne 52 [some (.ref 123), some (.int (Int32.ofNat t)), some (.int (Int32.ofNat k)), u8, some (.int v11)] [] (uset s 143 (8 * t + k) v11) _
  refine UP.stp 4 (i1 := 56) (L1 := [some (.ref 123), some (.int (Int32.ofNat t)), some (.int (Int32.ofNat k)), u8, some (.int v11)]) (st1 := [.int (Int32.ofNat k), .ref 137, .int (Int32.ofNat k), .ref 137]) (s1 := (uset s 143 (8 * t + k) v11)) rfl ?_
  refine UP.ald (e := k) rfl rfl (by omega) ?_
  show UP m_X7_pullsOne 57 [some (.ref 123), some (.int (Int32.ofNat t)), some (.int (Int32.ofNat k)), u8, some (.int v11)] [.int (s 137 k), .int (Int32.ofNat k), .ref 137] (uset s 143 (8 * t + k) v11) _
  refine UP.stp 2 (i1 := 59) (L1 := [some (.ref 123), some (.int (Int32.ofNat t)), some (.int (Int32.ofNat k)), u8, some (.int v11)]) (st1 := [.int ((s 137 k) + 1), .int (Int32.ofNat k), .ref 137]) (s1 := (uset s 143 (8 * t + k) v11)) rfl ?_
  refine nm (G := fun v12 => UP m_X7_pullsOne 59 [some (.ref 123), some (.int (Int32.ofNat t)), some (.int (Int32.ofNat k)), u8, some (.int v11)] [.int v12, .int (Int32.ofNat k), .ref 137] (uset s 143 (8 * t + k) v11) _) ((s 137 k) + 1) (fun v12 e12 => ?_)
  refine UP.ast (e := k) rfl rfl (by omega) ?_
  show UP m_X7_pullsOne 60 [some (.ref 123), some (.int (Int32.ofNat t)), some (.int (Int32.ofNat k)), u8, some (.int v11)] [] (uset (uset s 143 (8 * t + k) v11) 137 k v12) _
  refine UP.stp 4 (i1 := 64) (L1 := [some (.ref 123), some (.int (Int32.ofNat t)), some (.int (Int32.ofNat k)), u8, some (.int v11)]) (st1 := [.int (Int32.ofNat k), .ref 138, .int (Int32.ofNat k), .ref 138]) (s1 := (uset (uset s 143 (8 * t + k) v11) 137 k v12)) rfl ?_
  refine UP.ald (e := k) rfl rfl (by omega) ?_
  show UP m_X7_pullsOne 65 [some (.ref 123), some (.int (Int32.ofNat t)), some (.int (Int32.ofNat k)), u8, some (.int v11)] [.int (s 138 k), .int (Int32.ofNat k), .ref 138] (uset (uset s 143 (8 * t + k) v11) 137 k v12) _
  refine UP.stp 2 (i1 := 67) (L1 := [some (.ref 123), some (.int (Int32.ofNat t)), some (.int (Int32.ofNat k)), u8, some (.int v11)]) (st1 := [.int ((s 138 k) + v11), .int (Int32.ofNat k), .ref 138]) (s1 := (uset (uset s 143 (8 * t + k) v11) 137 k v12)) rfl ?_
  refine nm (G := fun v13 => UP m_X7_pullsOne 67 [some (.ref 123), some (.int (Int32.ofNat t)), some (.int (Int32.ofNat k)), u8, some (.int v11)] [.int v13, .int (Int32.ofNat k), .ref 138] (uset (uset s 143 (8 * t + k) v11) 137 k v12) _) ((s 138 k) + v11) (fun v13 e13 => ?_)
  refine UP.ast (e := k) rfl rfl (by omega) ?_
  show UP m_X7_pullsOne 68 [some (.ref 123), some (.int (Int32.ofNat t)), some (.int (Int32.ofNat k)), u8, some (.int v11)] [] (uset (uset (uset s 143 (8 * t + k) v11) 137 k v12) 138 k v13) _
  refine UP.stp 5 (i1 := 73) (L1 := [some (.ref 123), some (.int (Int32.ofNat t)), some (.int (Int32.ofNat k)), u8, some (.int v11)]) (st1 := [.int (Int32.ofNat k), .ref 135, .ref 136]) (s1 := (uset (uset (uset s 143 (8 * t + k) v11) 137 k v12) 138 k v13)) rfl ?_
  refine UP.ald (e := k) rfl rfl (by omega) ?_
  show UP m_X7_pullsOne 74 [some (.ref 123), some (.int (Int32.ofNat t)), some (.int (Int32.ofNat k)), u8, some (.int v11)] [.int (s 135 k), .ref 136] (uset (uset (uset s 143 (8 * t + k) v11) 137 k v12) 138 k v13) _
  refine UP.stp 6 (i1 := 80) (L1 := [some (.ref 123), some (.int (Int32.ofNat t)), some (.int (Int32.ofNat k)), u8, some (.int v11)]) (st1 := [.int ((s 136 (((s 135 k) - (s 135 k) / 2 * 2).toNatClampNeg)) + v11), .int ((s 135 k) - (s 135 k) / 2 * 2), .ref 136]) (s1 := (uset (uset (uset s 143 (8 * t + k) v11) 137 k v12) 138 k v13)) rfl ?_
  refine nm (G := fun v14 => UP m_X7_pullsOne 80 [some (.ref 123), some (.int (Int32.ofNat t)), some (.int (Int32.ofNat k)), u8, some (.int v11)] [.int v14, .int ((s 135 k) - (s 135 k) / 2 * 2), .ref 136] (uset (uset (uset s 143 (8 * t + k) v11) 137 k v12) 138 k v13) _) ((s 136 (((s 135 k) - (s 135 k) / 2 * 2).toNatClampNeg)) + v11) (fun v14 e14 => ?_)
  refine UP.stp 1 (i1 := 81) (L1 := [some (.ref 123), some (.int (Int32.ofNat t)), some (.int (Int32.ofNat k)), u8, some (.int v11)]) (st1 := []) (s1 := (uset (uset (uset (uset s 143 (8 * t + k) v11) 137 k v12) 138 k v13) 136 (((s 135 k) - (s 135 k) / 2 * 2).toNatClampNeg) v14)) rfl ?_
  exact UP.ret rfl ⟨by subst e14 e13 e12 e11 e10 e2 e1; rfl, by subst e14 e13 e12 e11 e10 e2 e1; rfl⟩
