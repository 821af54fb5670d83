def W_criver : List (Nat × Nat × Option Nat) := [(0, 0, some 12), (0, 0, some 13), (10, 10, some 5), (10, 10, some 6)]
def F_criver (s : SG) (what : Int32) (v : Int32) : Int32 × SG := bif m_cmp .ne what 0 then (let w4 := bif m_cmp .ne what 1 then ((-2 : Int32), s) else (F_tellHome s v); w4) else (let z5 := F_tellStream s v; z5)
theorem fr_criver (s : SG) (what : Int32) (v : Int32)  : Fr W_criver s (F_criver s what v).2 := by dsimp only [F_criver]; exact (Fr.bifp (b := m_cmp .ne what 0) (x := let w4 := bif m_cmp .ne what 1 then ((-2 : Int32), s) else (F_tellHome s v); w4) (y := let z5 := F_tellStream s v; z5) (fun x : Int32 × SG => x.2) (Fr.bifp (b := m_cmp .ne what 1) (x := ((-2 : Int32), s)) (y := (F_tellHome s v)) (fun x : Int32 × SG => x.2) (Fr.rf _ _) (Fr.tr (s1 := s) (Fr.rf _ _) (Fr.wk (W2 := W_criver) (fr_tellHome s v) (by rfl)))) (Fr.tr (s1 := s) (Fr.rf _ _) (Fr.wk (W2 := W_criver) (fr_tellStream s v) (by rfl))))
theorem ux_criver (s : SG) (what : Int32) (v : Int32)  : UP m_X6_river 0 (m_ent 3 [.ref 0, .int what, .int v]) [] s (Qb (F_criver s what v)) := by
  refine UP.stp 1 (i1 := 1) (L1 := [some (.ref 0), some (.int what), some (.int v)]) (st1 := [.int what]) (s1 := s) rfl ?_
  refine UP.spl (m_cmp .ne what 0) (let w4 := bif m_cmp .ne what 1 then ((-2 : Int32), s) else (F_tellHome s v); w4) (let z5 := F_tellStream s v; z5) (by rfl) (fun cc => ?_) (fun cc => ?_)
  · skip
    refine UP.ifT rfl cc ?_
    refine UP.stp 2 (i1 := 8) (L1 := [some (.ref 0), some (.int what), some (.int v)]) (st1 := [.int 1, .int what]) (s1 := s) rfl ?_
    refine mrg (m_cmp .ne what 1) ((-2 : Int32), s) (F_tellHome s v) (fun w4 : Int32 × SG => UP m_X6_river 14 [some (.ref 0), some (.int what), some (.int v)] [.int w4.1] w4.2 (Qb (let w4 := bif m_cmp .ne what 1 then ((-2 : Int32), s) else (F_tellHome s v); w4))) (fun cc kk => ?_) (fun cc kk => ?_) (fun w4 e4 => ?_)
    · skip
      refine UP.icT rfl cc ?_
      refine UP.stp 1 (i1 := 14) (L1 := [some (.ref 0), some (.int what), some (.int v)]) (st1 := [.int (-2)]) (s1 := s) rfl ?_
      exact kk
    · skip
      refine UP.icF rfl cc ?_
      refine UP.stp 2 (i1 := 11) (L1 := [some (.ref 0), some (.int what), some (.int v)]) (st1 := [.int v, .ref 0]) (s1 := s) rfl ?_
      refine UP.cB (M1 := m_X6_tellHome) (as := [.ref 0, .int v]) (rest := []) (T := F_tellHome s v) rfl rfl (ux_tellHome s v) (fun z3 e3 => ?_)
      refine UP.stp 1 (i1 := 14) (L1 := [some (.ref 0), some (.int what), some (.int v)]) (st1 := [.int z3.1]) (s1 := z3.2) rfl ?_
      subst e3
      exact kk
    exact UP.ret (r := some (.int w4.1)) rfl ⟨by subst e4; rfl, by subst e4; rfl⟩
  · skip
    refine UP.ifF rfl cc ?_
    refine UP.stp 2 (i1 := 4) (L1 := [some (.ref 0), some (.int what), some (.int v)]) (st1 := [.int v, .ref 0]) (s1 := s) rfl ?_
    refine UP.cB (M1 := m_X6_tellStream) (as := [.ref 0, .int v]) (rest := []) (T := F_tellStream s v) rfl rfl (ux_tellStream s v) (fun z5 e5 => ?_)
    exact UP.ret (r := some (.int z5.1)) rfl ⟨by subst e5; rfl, by subst e5; rfl⟩
def W_append : List (Nat × Nat × Option Nat) := [(3, 5, none), (2, 2, some 3)]
def F_append (s : SG) (k : Int32) (mi : Int32) (nu : Int32) : SG := let v1 := (s 2 3) + 1; (uset (uset (uset (uset s 3 ((s 2 3).toNatClampNeg) k) 4 ((s 2 3).toNatClampNeg) mi) 5 ((s 2 3).toNatClampNeg) nu) 2 3 v1)
theorem fr_append (s : SG) (k : Int32) (mi : Int32) (nu : Int32)  : Fr W_append s (F_append s k mi nu) := by dsimp only [F_append]; exact (let v1 : Int32 := (s 2 3) + 1; (Fr.uset (s1 := (uset (uset (uset s 3 ((s 2 3).toNatClampNeg) k) 4 ((s 2 3).toNatClampNeg) mi) 5 ((s 2 3).toNatClampNeg) nu)) (a := 2) (j := 3) (x := v1) (by rfl) (Fr.uset (s1 := (uset (uset s 3 ((s 2 3).toNatClampNeg) k) 4 ((s 2 3).toNatClampNeg) mi)) (a := 5) (j := (s 2 3).toNatClampNeg) (x := nu) (by rfl) (Fr.uset (s1 := (uset s 3 ((s 2 3).toNatClampNeg) k)) (a := 4) (j := (s 2 3).toNatClampNeg) (x := mi) (by rfl) (Fr.uset (s1 := s) (a := 3) (j := (s 2 3).toNatClampNeg) (x := k) (by rfl) (Fr.rf _ _))))))
theorem ux_append (s : SG) (k : Int32) (mi : Int32) (nu : Int32)  : UP m_X1_append 0 (m_ent 4 [.ref 2, .int k, .int mi, .int nu]) [] s (Qv (F_append s k mi nu)) := by
  refine UP.stp 23 (i1 := 23) (L1 := [some (.ref 2), some (.int k), some (.int mi), some (.int nu)]) (st1 := [.int ((s 2 3) + 1), .ref 2]) (s1 := (uset (uset (uset s 3 ((s 2 3).toNatClampNeg) k) 4 ((s 2 3).toNatClampNeg) mi) 5 ((s 2 3).toNatClampNeg) nu)) rfl ?_
  refine nm (G := fun v1 => UP m_X1_append 23 [some (.ref 2), some (.int k), some (.int mi), some (.int nu)] [.int v1, .ref 2] (uset (uset (uset s 3 ((s 2 3).toNatClampNeg) k) 4 ((s 2 3).toNatClampNeg) mi) 5 ((s 2 3).toNatClampNeg) nu) (Qv (F_append s k mi nu))) ((s 2 3) + 1) (fun v1 e1 => ?_)
  refine UP.stp 1 (i1 := 24) (L1 := [some (.ref 2), some (.int k), some (.int mi), some (.int nu)]) (st1 := []) (s1 := (uset (uset (uset (uset s 3 ((s 2 3).toNatClampNeg) k) 4 ((s 2 3).toNatClampNeg) mi) 5 ((s 2 3).toNatClampNeg) nu) 2 3 v1)) rfl ?_
  exact UP.ret (r := none) rfl ⟨by subst e1; rfl, by subst e1; rfl⟩
def W_cevent : List (Nat × Nat × Option Nat) := [(0, 0, some 12), (0, 0, some 13), (3, 5, none), (2, 2, some 3)]
def F_cevent (s : SG) (kind : Int32) (minute : Int32) (number : Int32) : Int32 × SG := bif m_cmp .eq (F_isBelow s kind 3) 0 then (((-2), s)) else (bif m_cmp .eq (F_isBelow s minute 24) 0 then (((-2), s)) else (bif m_cmp .ne (F_isBelow s number 8) 0 then (bif m_cmp .lt (s 2 3) 8 then (let z12 := F_append s kind minute number; let z13 := F_mark z12 ; (z13 2 3, z13)) else (((-4), s))) else (((-2), s))))
theorem fr_cevent (s : SG) (kind : Int32) (minute : Int32) (number : Int32)  : Fr W_cevent s (F_cevent s kind minute number).2 := by dsimp only [F_cevent]; exact (Fr.bifp (b := m_cmp .eq (F_isBelow s kind 3) 0) (x := ((-2), s)) (y := bif m_cmp .eq (F_isBelow s minute 24) 0 then (((-2), s)) else (bif m_cmp .ne (F_isBelow s number 8) 0 then (bif m_cmp .lt (s 2 3) 8 then (let z12 := F_append s kind minute number; let z13 := F_mark z12 ; (z13 2 3, z13)) else (((-4), s))) else (((-2), s)))) (fun x : Int32 × SG => x.2) (Fr.rf _ _) (Fr.bifp (b := m_cmp .eq (F_isBelow s minute 24) 0) (x := ((-2), s)) (y := bif m_cmp .ne (F_isBelow s number 8) 0 then (bif m_cmp .lt (s 2 3) 8 then (let z12 := F_append s kind minute number; let z13 := F_mark z12 ; (z13 2 3, z13)) else (((-4), s))) else (((-2), s))) (fun x : Int32 × SG => x.2) (Fr.rf _ _) (Fr.bifp (b := m_cmp .ne (F_isBelow s number 8) 0) (x := bif m_cmp .lt (s 2 3) 8 then (let z12 := F_append s kind minute number; let z13 := F_mark z12 ; (z13 2 3, z13)) else (((-4), s))) (y := ((-2), s)) (fun x : Int32 × SG => x.2) (Fr.bifp (b := m_cmp .lt (s 2 3) 8) (x := let z12 := F_append s kind minute number; let z13 := F_mark z12 ; (z13 2 3, z13)) (y := ((-4), s)) (fun x : Int32 × SG => x.2) (let z12 : SG := F_append s kind minute number; (Fr.tr (s1 := z12) (Fr.tr (s1 := s) (Fr.rf _ _) (Fr.wk (W2 := W_cevent) (fr_append s kind minute number) (by rfl))) (Fr.wk (W2 := W_cevent) (fr_mark z12 ) (by rfl)))) (Fr.rf _ _)) (Fr.rf _ _))))
theorem ux_cevent (s : SG) (kind : Int32) (minute : Int32) (number : Int32)  : UP m_X6_event 0 (m_ent 4 [.ref 0, .int kind, .int minute, .int number]) [] s (Qb (F_cevent s kind minute number)) := by
  refine UP.stp 2 (i1 := 2) (L1 := [some (.ref 0), some (.int kind), some (.int minute), some (.int number)]) (st1 := [.int 3, .int kind]) (s1 := s) rfl ?_
  refine UP.cI (M1 := m_X6_isBelow) (as := [.int kind, .int 3]) (rest := []) (T := F_isBelow s kind 3) rfl rfl (ux_isBelow s kind 3) ?_
  refine UP.spl (m_cmp .eq (F_isBelow s kind 3) 0) (((-2), s)) (bif m_cmp .eq (F_isBelow s minute 24) 0 then (((-2), s)) else (bif m_cmp .ne (F_isBelow s number 8) 0 then (bif m_cmp .lt (s 2 3) 8 then (let z12 := F_append s kind minute number; let z13 := F_mark z12 ; (z13 2 3, z13)) else (((-4), s))) else (((-2), s)))) (by rfl) (fun cc => ?_) (fun cc => ?_)
  · skip
    refine UP.ifT rfl cc ?_
    refine UP.stp 1 (i1 := 13) (L1 := [some (.ref 0), some (.int kind), some (.int minute), some (.int number)]) (st1 := [.int (-2)]) (s1 := s) rfl ?_
    exact UP.ret (r := some (.int (-2))) rfl ⟨by rfl, by rfl⟩
  · skip
    refine UP.ifF rfl cc ?_
    refine UP.stp 2 (i1 := 6) (L1 := [some (.ref 0), some (.int kind), some (.int minute), some (.int number)]) (st1 := [.int 24, .int minute]) (s1 := s) rfl ?_
    refine UP.cI (M1 := m_X6_isBelow) (as := [.int minute, .int 24]) (rest := []) (T := F_isBelow s minute 24) rfl rfl (ux_isBelow s minute 24) ?_
    refine UP.spl (m_cmp .eq (F_isBelow s minute 24) 0) (((-2), s)) (bif m_cmp .ne (F_isBelow s number 8) 0 then (bif m_cmp .lt (s 2 3) 8 then (let z12 := F_append s kind minute number; let z13 := F_mark z12 ; (z13 2 3, z13)) else (((-4), s))) else (((-2), s))) (by rfl) (fun cc => ?_) (fun cc => ?_)
    · skip
      refine UP.ifT rfl cc ?_
      refine UP.stp 1 (i1 := 13) (L1 := [some (.ref 0), some (.int kind), some (.int minute), some (.int number)]) (st1 := [.int (-2)]) (s1 := s) rfl ?_
      exact UP.ret (r := some (.int (-2))) rfl ⟨by rfl, by rfl⟩
    · skip
      refine UP.ifF rfl cc ?_
      refine UP.stp 2 (i1 := 10) (L1 := [some (.ref 0), some (.int kind), some (.int minute), some (.int number)]) (st1 := [.int 8, .int number]) (s1 := s) rfl ?_
      refine UP.cI (M1 := m_X6_isBelow) (as := [.int number, .int 8]) (rest := []) (T := F_isBelow s number 8) rfl rfl (ux_isBelow s number 8) ?_
      refine UP.spl (m_cmp .ne (F_isBelow s number 8) 0) (bif m_cmp .lt (s 2 3) 8 then (let z12 := F_append s kind minute number; let z13 := F_mark z12 ; (z13 2 3, z13)) else (((-4), s))) (((-2), s)) (by rfl) (fun cc => ?_) (fun cc => ?_)
      · skip
        refine UP.ifT rfl cc ?_
        refine UP.stp 4 (i1 := 18) (L1 := [some (.ref 0), some (.int kind), some (.int minute), some (.int number)]) (st1 := [.int 8, .int (s 2 3)]) (s1 := s) rfl ?_
        refine UP.spl (m_cmp .lt (s 2 3) 8) (let z12 := F_append s kind minute number; let z13 := F_mark z12 ; (z13 2 3, z13)) (((-4), s)) (by rfl) (fun cc => ?_) (fun cc => ?_)
        · skip
          refine UP.icT rfl cc ?_
          refine UP.stp 5 (i1 := 26) (L1 := [some (.ref 0), some (.int kind), some (.int minute), some (.int number)]) (st1 := [.int number, .int minute, .int kind, .ref 2]) (s1 := s) rfl ?_
          refine UP.cV (M1 := m_X1_append) (as := [.ref 2, .int kind, .int minute, .int number]) (rest := []) (T := F_append s kind minute number) rfl rfl (ux_append s kind minute number) (fun z12 e12 => ?_)
          refine UP.stp 1 (i1 := 28) (L1 := [some (.ref 0), some (.int kind), some (.int minute), some (.int number)]) (st1 := [.ref 0]) (s1 := z12) rfl ?_
          refine UP.cV (M1 := m_X6_markChanged) (as := [.ref 0]) (rest := []) (T := F_mark z12 ) rfl rfl (ux_mark z12 ) (fun z13 e13 => ?_)
          refine UP.stp 3 (i1 := 32) (L1 := [some (.ref 0), some (.int kind), some (.int minute), some (.int number)]) (st1 := [.int (z13 2 3)]) (s1 := z13) rfl ?_
          exact UP.ret (r := some (.int (z13 2 3))) rfl ⟨by subst e13 e12; rfl, by subst e13 e12; rfl⟩
        · skip
          refine UP.icF rfl cc ?_
          refine UP.stp 1 (i1 := 20) (L1 := [some (.ref 0), some (.int kind), some (.int minute), some (.int number)]) (st1 := [.int (-4)]) (s1 := s) rfl ?_
          exact UP.ret (r := some (.int (-4))) rfl ⟨by rfl, by rfl⟩
      · skip
        refine UP.ifF rfl cc ?_
        refine UP.stp 1 (i1 := 13) (L1 := [some (.ref 0), some (.int kind), some (.int minute), some (.int number)]) (st1 := [.int (-2)]) (s1 := s) rfl ?_
        exact UP.ret (r := some (.int (-2))) rfl ⟨by rfl, by rfl⟩
def W_cback : List (Nat × Nat × Option Nat) := [(0, 0, some 12), (0, 0, some 13), (2, 2, some 3)]
def F_cback (s : SG)  : Int32 × SG := bif m_cmp .ne (s 2 3) 0 then (let v3 := (s 2 3) - 1; let z4 := F_mark (uset s 2 3 v3) ; (z4 2 3, z4)) else (((-3), s))
theorem fr_cback (s : SG)   : Fr W_cback s (F_cback s).2 := by dsimp only [F_cback]; exact (Fr.bifp (b := m_cmp .ne (s 2 3) 0) (x := let v3 := (s 2 3) - 1; let z4 := F_mark (uset s 2 3 v3) ; (z4 2 3, z4)) (y := ((-3), s)) (fun x : Int32 × SG => x.2) (let v3 : Int32 := (s 2 3) - 1; (Fr.tr (s1 := (uset s 2 3 v3)) (Fr.uset (s1 := s) (a := 2) (j := 3) (x := v3) (by rfl) (Fr.rf _ _)) (Fr.wk (W2 := W_cback) (fr_mark (uset s 2 3 v3) ) (by rfl)))) (Fr.rf _ _))
theorem ux_cback (s : SG)   : UP m_X6_back 0 (m_ent 1 [.ref 0]) [] s (Qb (F_cback s)) := by
  refine UP.stp 3 (i1 := 3) (L1 := [some (.ref 0)]) (st1 := [.int (s 2 3)]) (s1 := s) rfl ?_
  refine UP.spl (m_cmp .ne (s 2 3) 0) (let v3 := (s 2 3) - 1; let z4 := F_mark (uset s 2 3 v3) ; (z4 2 3, z4)) (((-3), s)) (by rfl) (fun cc => ?_) (fun cc => ?_)
  · skip
    refine UP.ifT rfl cc ?_
    refine UP.stp 6 (i1 := 12) (L1 := [some (.ref 0)]) (st1 := [.int ((s 2 3) - 1), .ref 2]) (s1 := s) rfl ?_
    refine nm (G := fun v3 => UP m_X6_back 12 [some (.ref 0)] [.int v3, .ref 2] s (Qb (let v3 := (s 2 3) - 1; let z4 := F_mark (uset s 2 3 v3) ; (z4 2 3, z4)))) ((s 2 3) - 1) (fun v3 e3 => ?_)
    refine UP.stp 2 (i1 := 14) (L1 := [some (.ref 0)]) (st1 := [.ref 0]) (s1 := (uset s 2 3 v3)) rfl ?_
    refine UP.cV (M1 := m_X6_markChanged) (as := [.ref 0]) (rest := []) (T := F_mark (uset s 2 3 v3) ) rfl rfl (ux_mark (uset s 2 3 v3) ) (fun z4 e4 => ?_)
    refine UP.stp 3 (i1 := 18) (L1 := [some (.ref 0)]) (st1 := [.int (z4 2 3)]) (s1 := z4) rfl ?_
    exact UP.ret (r := some (.int (z4 2 3))) rfl ⟨by subst e4 e3; rfl, by subst e4 e3; rfl⟩
  · skip
    refine UP.ifF rfl cc ?_
    refine UP.stp 1 (i1 := 5) (L1 := [some (.ref 0)]) (st1 := [.int (-3)]) (s1 := s) rfl ?_
    exact UP.ret (r := some (.int (-3))) rfl ⟨by rfl, by rfl⟩
def W_sappend : List (Nat × Nat × Option Nat) := [(7, 8, none), (6, 6, some 2)]
def F_sappend (s : SG) (mi : Int32) (pl : Int32) : SG := let v1 := (s 6 2) + 1; (uset (uset (uset s 7 ((s 6 2).toNatClampNeg) mi) 8 ((s 6 2).toNatClampNeg) pl) 6 2 v1)
theorem fr_sappend (s : SG) (mi : Int32) (pl : Int32)  : Fr W_sappend s (F_sappend s mi pl) := by dsimp only [F_sappend]; exact (let v1 : Int32 := (s 6 2) + 1; (Fr.uset (s1 := (uset (uset s 7 ((s 6 2).toNatClampNeg) mi) 8 ((s 6 2).toNatClampNeg) pl)) (a := 6) (j := 2) (x := v1) (by rfl) (Fr.uset (s1 := (uset s 7 ((s 6 2).toNatClampNeg) mi)) (a := 8) (j := (s 6 2).toNatClampNeg) (x := pl) (by rfl) (Fr.uset (s1 := s) (a := 7) (j := (s 6 2).toNatClampNeg) (x := mi) (by rfl) (Fr.rf _ _)))))
theorem ux_sappend (s : SG) (mi : Int32) (pl : Int32)  : UP m_X2_append 0 (m_ent 3 [.ref 6, .int mi, .int pl]) [] s (Qv (F_sappend s mi pl)) := by
  refine UP.stp 17 (i1 := 17) (L1 := [some (.ref 6), some (.int mi), some (.int pl)]) (st1 := [.int ((s 6 2) + 1), .ref 6]) (s1 := (uset (uset s 7 ((s 6 2).toNatClampNeg) mi) 8 ((s 6 2).toNatClampNeg) pl)) rfl ?_
  refine nm (G := fun v1 => UP m_X2_append 17 [some (.ref 6), some (.int mi), some (.int pl)] [.int v1, .ref 6] (uset (uset s 7 ((s 6 2).toNatClampNeg) mi) 8 ((s 6 2).toNatClampNeg) pl) (Qv (F_sappend s mi pl))) ((s 6 2) + 1) (fun v1 e1 => ?_)
  refine UP.stp 1 (i1 := 18) (L1 := [some (.ref 6), some (.int mi), some (.int pl)]) (st1 := []) (s1 := (uset (uset (uset s 7 ((s 6 2).toNatClampNeg) mi) 8 ((s 6 2).toNatClampNeg) pl) 6 2 v1)) rfl ?_
  exact UP.ret (r := none) rfl ⟨by subst e1; rfl, by subst e1; rfl⟩
def W_cseen : List (Nat × Nat × Option Nat) := [(7, 8, none), (6, 6, some 2)]
def F_cseen (s : SG) (minute : Int32) (place : Int32) : Int32 × SG := bif m_cmp .eq (F_isBelow s minute 24) 0 then (((-2), s)) else (bif m_cmp .ne (F_isBelow s place 21) 0 then (bif m_cmp .lt (s 6 2) 8 then (let z9 := F_sappend s minute place; (z9 6 2, z9)) else (((-4), s))) else (((-2), s)))
theorem fr_cseen (s : SG) (minute : Int32) (place : Int32)  : Fr W_cseen s (F_cseen s minute place).2 := by dsimp only [F_cseen]; exact (Fr.bifp (b := m_cmp .eq (F_isBelow s minute 24) 0) (x := ((-2), s)) (y := bif m_cmp .ne (F_isBelow s place 21) 0 then (bif m_cmp .lt (s 6 2) 8 then (let z9 := F_sappend s minute place; (z9 6 2, z9)) else (((-4), s))) else (((-2), s))) (fun x : Int32 × SG => x.2) (Fr.rf _ _) (Fr.bifp (b := m_cmp .ne (F_isBelow s place 21) 0) (x := bif m_cmp .lt (s 6 2) 8 then (let z9 := F_sappend s minute place; (z9 6 2, z9)) else (((-4), s))) (y := ((-2), s)) (fun x : Int32 × SG => x.2) (Fr.bifp (b := m_cmp .lt (s 6 2) 8) (x := let z9 := F_sappend s minute place; (z9 6 2, z9)) (y := ((-4), s)) (fun x : Int32 × SG => x.2) (Fr.tr (s1 := s) (Fr.rf _ _) (Fr.wk (W2 := W_cseen) (fr_sappend s minute place) (by rfl))) (Fr.rf _ _)) (Fr.rf _ _)))
theorem ux_cseen (s : SG) (minute : Int32) (place : Int32)  : UP m_X6_seen 0 (m_ent 3 [.ref 0, .int minute, .int place]) [] s (Qb (F_cseen s minute place)) := by
  refine UP.stp 2 (i1 := 2) (L1 := [some (.ref 0), some (.int minute), some (.int place)]) (st1 := [.int 24, .int minute]) (s1 := s) rfl ?_
  refine UP.cI (M1 := m_X6_isBelow) (as := [.int minute, .int 24]) (rest := []) (T := F_isBelow s minute 24) rfl rfl (ux_isBelow s minute 24) ?_
  refine UP.spl (m_cmp .eq (F_isBelow s minute 24) 0) (((-2), s)) (bif m_cmp .ne (F_isBelow s place 21) 0 then (bif m_cmp .lt (s 6 2) 8 then (let z9 := F_sappend s minute place; (z9 6 2, z9)) else (((-4), s))) else (((-2), s))) (by rfl) (fun cc => ?_) (fun cc => ?_)
  · skip
    refine UP.ifT rfl cc ?_
    refine UP.stp 1 (i1 := 9) (L1 := [some (.ref 0), some (.int minute), some (.int place)]) (st1 := [.int (-2)]) (s1 := s) rfl ?_
    exact UP.ret (r := some (.int (-2))) rfl ⟨by rfl, by rfl⟩
  · skip
    refine UP.ifF rfl cc ?_
    refine UP.stp 2 (i1 := 6) (L1 := [some (.ref 0), some (.int minute), some (.int place)]) (st1 := [.int 21, .int place]) (s1 := s) rfl ?_
    refine UP.cI (M1 := m_X6_isBelow) (as := [.int place, .int 21]) (rest := []) (T := F_isBelow s place 21) rfl rfl (ux_isBelow s place 21) ?_
    refine UP.spl (m_cmp .ne (F_isBelow s place 21) 0) (bif m_cmp .lt (s 6 2) 8 then (let z9 := F_sappend s minute place; (z9 6 2, z9)) else (((-4), s))) (((-2), s)) (by rfl) (fun cc => ?_) (fun cc => ?_)
    · skip
      refine UP.ifT rfl cc ?_
      refine UP.stp 4 (i1 := 14) (L1 := [some (.ref 0), some (.int minute), some (.int place)]) (st1 := [.int 8, .int (s 6 2)]) (s1 := s) rfl ?_
      refine UP.spl (m_cmp .lt (s 6 2) 8) (let z9 := F_sappend s minute place; (z9 6 2, z9)) (((-4), s)) (by rfl) (fun cc => ?_) (fun cc => ?_)
      · skip
        refine UP.icT rfl cc ?_
        refine UP.stp 4 (i1 := 21) (L1 := [some (.ref 0), some (.int minute), some (.int place)]) (st1 := [.int place, .int minute, .ref 6]) (s1 := s) rfl ?_
        refine UP.cV (M1 := m_X2_append) (as := [.ref 6, .int minute, .int place]) (rest := []) (T := F_sappend s minute place) rfl rfl (ux_sappend s minute place) (fun z9 e9 => ?_)
        refine UP.stp 3 (i1 := 25) (L1 := [some (.ref 0), some (.int minute), some (.int place)]) (st1 := [.int (z9 6 2)]) (s1 := z9) rfl ?_
        exact UP.ret (r := some (.int (z9 6 2))) rfl ⟨by subst e9; rfl, by subst e9; rfl⟩
      · skip
        refine UP.icF rfl cc ?_
        refine UP.stp 1 (i1 := 16) (L1 := [some (.ref 0), some (.int minute), some (.int place)]) (st1 := [.int (-4)]) (s1 := s) rfl ?_
        exact UP.ret (r := some (.int (-4))) rfl ⟨by rfl, by rfl⟩
    · skip
      refine UP.ifF rfl cc ?_
      refine UP.stp 1 (i1 := 9) (L1 := [some (.ref 0), some (.int minute), some (.int place)]) (st1 := [.int (-2)]) (s1 := s) rfl ?_
      exact UP.ret (r := some (.int (-2))) rfl ⟨by rfl, by rfl⟩
def W_cforget : List (Nat × Nat × Option Nat) := [(6, 6, some 2)]
def F_cforget (s : SG)  : Int32 × SG := let v1 := s 6 2; (v1, (uset s 6 2 0))
theorem fr_cforget (s : SG)   : Fr W_cforget s (F_cforget s).2 := by dsimp only [F_cforget]; exact (Fr.uset (s1 := s) (a := 6) (j := 2) (x := 0) (by rfl) (Fr.rf _ _))
theorem ux_cforget (s : SG)   : UP m_X6_forget 0 (m_ent 2 [.ref 0]) [] s (Qb (F_cforget s)) := by
  refine UP.stp 3 (i1 := 3) (L1 := [some (.ref 0), none]) (st1 := [.int (s 6 2)]) (s1 := s) rfl ?_
  refine nm (G := fun v1 => UP m_X6_forget 3 [some (.ref 0), none] [.int v1] s (Qb (F_cforget s))) (s 6 2) (fun v1 e1 => ?_)
  refine UP.stp 6 (i1 := 9) (L1 := [some (.ref 0), some (.int v1)]) (st1 := [.int v1]) (s1 := (uset s 6 2 0)) rfl ?_
  exact UP.ret (r := some (.int v1)) rfl ⟨by subst e1; rfl, by subst e1; rfl⟩
def W_toldTrip : List (Nat × Nat × Option Nat) := [(16, 20, none), (22, 45, none), (46, 52, none), (15, 15, some 8), (59, 63, none), (65, 88, none), (89, 95, none), (58, 58, some 8), (54, 57, none), (53, 53, none), (96, 108, none), (0, 0, some 12), (0, 0, some 13)]
def F_toldTrip (s : SG)  : SG := let v2 := bif m_cmp .eq (s 0 12) 0 then s else (uset (F_row_a s 255) 0 12 0); v2
theorem fr_toldTrip (s : SG)   : Fr W_toldTrip s (F_toldTrip s) := by dsimp only [F_toldTrip]; exact (Fr.bif (b := m_cmp .eq (s 0 12) 0) (s1 := s) (s2 := (uset (F_row_a s 255) 0 12 0)) (Fr.rf _ _) (Fr.uset (s1 := (F_row_a s 255)) (a := 0) (j := 12) (x := 0) (by rfl) (Fr.tr (s1 := s) (Fr.rf _ _) (Fr.wk (W2 := W_toldTrip) (fr_row_a s 255) (by rfl)))))
theorem ux_toldTrip (s : SG)   : UP m_X6_toldTrip 0 (m_ent 1 [.ref 0]) [] s (Qr 15 (F_toldTrip s)) := by
  refine UP.stp 2 (i1 := 2) (L1 := [some (.ref 0)]) (st1 := [.int (s 0 12)]) (s1 := s) rfl ?_
  refine mrg (m_cmp .eq (s 0 12) 0) s (uset (F_row_a s 255) 0 12 0) (fun v2 : SG => UP m_X6_toldTrip 14 [some (.ref 0)] [] v2 (Qr 15 (F_toldTrip s))) (fun cc kk => ?_) (fun cc kk => ?_) (fun v2 e2 => ?_)
  · skip
    refine UP.ifT rfl cc ?_
    exact kk
  · skip
    refine UP.ifF rfl cc ?_
    refine UP.stp 7 (i1 := 10) (L1 := [some (.ref 0)]) (st1 := [.int 255, .ref 2, .ref 10, .ref 15]) (s1 := s) rfl ?_
    refine UP.cV (M1 := m_X5_row) (as := [.ref 15, .ref 10, .ref 2, .int 255]) (rest := []) (T := F_row_a s 255) rfl rfl (ux_row_a s 255) (fun z1 e1 => ?_)
    refine UP.stp 3 (i1 := 14) (L1 := [some (.ref 0)]) (st1 := []) (s1 := (uset z1 0 12 0)) rfl ?_
    subst e1
    exact kk
  refine UP.stp 2 (i1 := 16) (L1 := [some (.ref 0)]) (st1 := [.ref 15]) (s1 := v2) rfl ?_
  exact UP.ret (r := some (.ref 15)) rfl ⟨by subst e2; rfl, by subst e2; rfl⟩
def W_rowOther : List (Nat × Nat × Option Nat) := [(16, 20, none), (22, 45, none), (46, 52, none), (15, 15, some 8), (59, 63, none), (65, 88, none), (89, 95, none), (58, 58, some 8), (54, 57, none), (53, 53, none), (96, 108, none), (0, 0, some 12), (0, 0, some 13)]
def F_rowOther (s : SG)  : SG := let z1 := F_row_b s 255; z1
theorem fr_rowOther (s : SG)   : Fr W_rowOther s (F_rowOther s) := by dsimp only [F_rowOther]; exact (Fr.tr (s1 := s) (Fr.rf _ _) (Fr.wk (W2 := W_rowOther) (fr_row_b s 255) (by rfl)))
theorem ux_rowOther (s : SG)   : UP m_X6_rowOther 0 (m_ent 1 [.ref 0]) [] s (Qr 58 (F_rowOther s)) := by
  refine UP.stp 7 (i1 := 7) (L1 := [some (.ref 0)]) (st1 := [.int 255, .ref 2, .ref 53, .ref 58]) (s1 := s) rfl ?_
  refine UP.cV (M1 := m_X5_row) (as := [.ref 58, .ref 53, .ref 2, .int 255]) (rest := []) (T := F_row_b s 255) rfl rfl (ux_row_b s 255) (fun z1 e1 => ?_)
  refine UP.stp 2 (i1 := 10) (L1 := [some (.ref 0)]) (st1 := [.ref 58]) (s1 := z1) rfl ?_
  exact UP.ret (r := some (.ref 58)) rfl ⟨by subst e1; rfl, by subst e1; rfl⟩
def W_take : List (Nat × Nat × Option Nat) := [(53, 57, none)]
def F_take (s : SG)  : SG := let v1 := s 10 0; let v2 := (mvs (mvs (mvs (mvs (uset s 53 0 v1) 11 0 54 0 8) 12 0 55 0 8) 13 0 56 0 24) 14 0 57 0 24) 10 5; let v3 := (mvs (mvs (mvs (mvs (uset s 53 0 v1) 11 0 54 0 8) 12 0 55 0 8) 13 0 56 0 24) 14 0 57 0 24) 10 6; (uset (uset (mvs (mvs (mvs (mvs (uset s 53 0 v1) 11 0 54 0 8) 12 0 55 0 8) 13 0 56 0 24) 14 0 57 0 24) 53 5 v2) 53 6 v3)
theorem fr_take (s : SG)   : Fr W_take s (F_take s) := by dsimp only [F_take]; exact (let v1 : Int32 := s 10 0; (let v2 : Int32 := (mvs (mvs (mvs (mvs (uset s 53 0 v1) 11 0 54 0 8) 12 0 55 0 8) 13 0 56 0 24) 14 0 57 0 24) 10 5; (let v3 : Int32 := (mvs (mvs (mvs (mvs (uset s 53 0 v1) 11 0 54 0 8) 12 0 55 0 8) 13 0 56 0 24) 14 0 57 0 24) 10 6; (Fr.uset (s1 := (uset (mvs (mvs (mvs (mvs (uset s 53 0 v1) 11 0 54 0 8) 12 0 55 0 8) 13 0 56 0 24) 14 0 57 0 24) 53 5 v2)) (a := 53) (j := 6) (x := v3) (by rfl) (Fr.uset (s1 := (mvs (mvs (mvs (mvs (uset s 53 0 v1) 11 0 54 0 8) 12 0 55 0 8) 13 0 56 0 24) 14 0 57 0 24)) (a := 53) (j := 5) (x := v2) (by rfl) (Fr.mvs (by rfl) (Fr.mvs (by rfl) (Fr.mvs (by rfl) (Fr.mvs (by rfl) (Fr.uset (s1 := s) (a := 53) (j := 0) (x := v1) (by rfl) (Fr.rf _ _)))))))))))
theorem ux_take (s : SG)   : UP m_X0_take 0 (m_ent 2 [.ref 53, .ref 10]) [] s (Qv (F_take s)) := by
  refine UP.stp 3 (i1 := 3) (L1 := [some (.ref 53), some (.ref 10)]) (st1 := [.int (s 10 0), .ref 53]) (s1 := s) rfl ?_
  refine nm (G := fun v1 => UP m_X0_take 3 [some (.ref 53), some (.ref 10)] [.int v1, .ref 53] s (Qv (F_take s))) (s 10 0) (fun v1 e1 => ?_)
  refine UP.stp 36 (i1 := 39) (L1 := [some (.ref 53), some (.ref 10)]) (st1 := [.int ((mvs (mvs (mvs (mvs (uset s 53 0 v1) 11 0 54 0 8) 12 0 55 0 8) 13 0 56 0 24) 14 0 57 0 24) 10 5), .ref 53]) (s1 := (mvs (mvs (mvs (mvs (uset s 53 0 v1) 11 0 54 0 8) 12 0 55 0 8) 13 0 56 0 24) 14 0 57 0 24)) rfl ?_
  refine nm (G := fun v2 => UP m_X0_take 39 [some (.ref 53), some (.ref 10)] [.int v2, .ref 53] (mvs (mvs (mvs (mvs (uset s 53 0 v1) 11 0 54 0 8) 12 0 55 0 8) 13 0 56 0 24) 14 0 57 0 24) (Qv (F_take s))) ((mvs (mvs (mvs (mvs (uset s 53 0 v1) 11 0 54 0 8) 12 0 55 0 8) 13 0 56 0 24) 14 0 57 0 24) 10 5) (fun v2 e2 => ?_)
  refine UP.stp 4 (i1 := 43) (L1 := [some (.ref 53), some (.ref 10)]) (st1 := [.int ((mvs (mvs (mvs (mvs (uset s 53 0 v1) 11 0 54 0 8) 12 0 55 0 8) 13 0 56 0 24) 14 0 57 0 24) 10 6), .ref 53]) (s1 := (uset (mvs (mvs (mvs (mvs (uset s 53 0 v1) 11 0 54 0 8) 12 0 55 0 8) 13 0 56 0 24) 14 0 57 0 24) 53 5 v2)) rfl ?_
  refine nm (G := fun v3 => UP m_X0_take 43 [some (.ref 53), some (.ref 10)] [.int v3, .ref 53] (uset (mvs (mvs (mvs (mvs (uset s 53 0 v1) 11 0 54 0 8) 12 0 55 0 8) 13 0 56 0 24) 14 0 57 0 24) 53 5 v2) (Qv (F_take s))) ((mvs (mvs (mvs (mvs (uset s 53 0 v1) 11 0 54 0 8) 12 0 55 0 8) 13 0 56 0 24) 14 0 57 0 24) 10 6) (fun v3 e3 => ?_)
  refine UP.stp 1 (i1 := 44) (L1 := [some (.ref 53), some (.ref 10)]) (st1 := []) (s1 := (uset (uset (mvs (mvs (mvs (mvs (uset s 53 0 v1) 11 0 54 0 8) 12 0 55 0 8) 13 0 56 0 24) 14 0 57 0 24) 53 5 v2) 53 6 v3)) rfl ?_
  exact UP.ret (r := none) rfl ⟨by subst e3 e2 e1; rfl, by subst e3 e2 e1; rfl⟩
def W_minutesAground_a : List (Nat × Nat × Option Nat) := []
def B_minutesAground_a_4 (s : SG) (i1 : Nat) (a1 : Int32) : Int32 := let v2 := a1 + (s 20 i1); v2
def F_minutesAground_a (s : SG)  : Int32 := let z1 := itr (B_minutesAground_a_4 s) 0 24 (0 : Int32); z1
theorem ux_minutesAground_a (s : SG)   : UP m_X5_minutesAground 0 (m_ent 3 [.ref 15]) [] s (Qi s (F_minutesAground_a s)) := by
  refine UP.stp 4 (i1 := 4) (L1 := [some (.ref 15), some (.int 0), some (.int 0)]) (st1 := []) (s1 := s) rfl ?_
  refine lp (fun (i1 : Nat) (a1 : Int32) => UP m_X5_minutesAground 4 [some (.ref 15), some (.int a1), some (.int (Int32.ofNat i1))] [] s (Qi s (F_minutesAground_a s))) (fun (_ : Nat) (a1 : Int32) => Fr W_minutesAground_a s s) (B_minutesAground_a_4 s) (24) (fun i1 a1 hi1 g1 => g1) (fun i1 a1 hi1 g1 kk => ?_) 24 (0) (0 : Int32) (by omega) (Fr.rf _ _) (fun z1 e1 g1 => ?_)
  · skip
    refine UP.stp 2 (i1 := 6) (L1 := [some (.ref 15), some (.int a1), some (.int (Int32.ofNat i1))]) (st1 := [.int 24, .int (Int32.ofNat i1)]) (s1 := s) rfl ?_
    refine UP.icF rfl (ge_F (show i1 < (24 : Int32).toNatClampNeg from hi1)) ?_
    refine UP.stp 4 (i1 := 11) (L1 := [some (.ref 15), some (.int a1), some (.int (Int32.ofNat i1))]) (st1 := [.int (Int32.ofNat i1), .ref 20, .int a1]) (s1 := s) rfl ?_
    refine UP.ald (e := i1) rfl rfl (by omega) ?_
    show UP m_X5_minutesAground 12 [some (.ref 15), some (.int a1), some (.int (Int32.ofNat i1))] [.int (s 20 i1), .int a1] s (Qi s (F_minutesAground_a s))
    refine UP.stp 1 (i1 := 13) (L1 := [some (.ref 15), some (.int a1), some (.int (Int32.ofNat i1))]) (st1 := [.int (a1 + (s 20 i1))]) (s1 := s) rfl ?_
    refine nm (G := fun v2 => UP m_X5_minutesAground 13 [some (.ref 15), some (.int a1), some (.int (Int32.ofNat i1))] [.int v2] s (Qi s (F_minutesAground_a s))) (a1 + (s 20 i1)) (fun v2 e2 => ?_)
    refine UP.stp 3 (i1 := 4) (L1 := [some (.ref 15), some (.int v2), some (.int ((Int32.ofNat i1) + 1))]) (st1 := []) (s1 := s) rfl ?_
    subst e2
    rw [ofn_s]
    exact kk
  refine UP.stp 2 (i1 := 6) (L1 := [some (.ref 15), some (.int z1), some (.int (Int32.ofNat 24))]) (st1 := [.int 24, .int (Int32.ofNat 24)]) (s1 := s) rfl ?_
  refine UP.icT rfl (ge_T (24 : Int32)) ?_
  refine UP.stp 1 (i1 := 17) (L1 := [some (.ref 15), some (.int z1), some (.int (Int32.ofNat 24))]) (st1 := [.int z1]) (s1 := s) rfl ?_
  exact UP.ret (r := some (.int z1)) rfl ⟨by subst e1; rfl, by subst e1; rfl⟩
