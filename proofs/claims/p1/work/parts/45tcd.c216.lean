def W_cevent : List (Nat × Nat × Option Nat) := [(0, 0, some 12), (0, 0, some 13), (3, 5, none), (2, 2, some 3)]
def F_cevent (s : SG) (kind : Int32) (minute : Int32) (number : Int32) : Int32 × SG := bif m_cmp .eq (F_isBelow s kind 3) 0 then (((-2), s)) else (bif m_cmp .eq (F_isBelow s minute 24) 0 then (((-2), s)) else (bif m_cmp .ne (F_isBelow s number 8) 0 then (bif m_cmp .lt (s 2 3) 8 then (let z12 := F_append s kind minute number; let z13 := F_mark z12 ; (z13 2 3, z13)) else (((-4), s))) else (((-2), s))))
set_option maxRecDepth 20000 in
set_option maxHeartbeats 200000 in
theorem fr_cevent (s : SG) (kind : Int32) (minute : Int32) (number : Int32)  : Fr W_cevent s (F_cevent s kind minute number).2 := by dsimp only [F_cevent]; exact (Fr.bifp (b := m_cmp .eq (F_isBelow s kind 3) 0) (x := ((-2), s)) (y := bif m_cmp .eq (F_isBelow s minute 24) 0 then (((-2), s)) else (bif m_cmp .ne (F_isBelow s number 8) 0 then (bif m_cmp .lt (s 2 3) 8 then (let z12 := F_append s kind minute number; let z13 := F_mark z12 ; (z13 2 3, z13)) else (((-4), s))) else (((-2), s)))) (fun x : Int32 × SG => x.2) (by (try dsimp only); exact (Fr.rf _ _)) (by (try dsimp only); exact (Fr.bifp (b := m_cmp .eq (F_isBelow s minute 24) 0) (x := ((-2), s)) (y := bif m_cmp .ne (F_isBelow s number 8) 0 then (bif m_cmp .lt (s 2 3) 8 then (let z12 := F_append s kind minute number; let z13 := F_mark z12 ; (z13 2 3, z13)) else (((-4), s))) else (((-2), s))) (fun x : Int32 × SG => x.2) (by (try dsimp only); exact (Fr.rf _ _)) (by (try dsimp only); exact (Fr.bifp (b := m_cmp .ne (F_isBelow s number 8) 0) (x := bif m_cmp .lt (s 2 3) 8 then (let z12 := F_append s kind minute number; let z13 := F_mark z12 ; (z13 2 3, z13)) else (((-4), s))) (y := ((-2), s)) (fun x : Int32 × SG => x.2) (by (try dsimp only); exact (Fr.bifp (b := m_cmp .lt (s 2 3) 8) (x := let z12 := F_append s kind minute number; let z13 := F_mark z12 ; (z13 2 3, z13)) (y := ((-4), s)) (fun x : Int32 × SG => x.2) (by (try dsimp only); exact (let z12 : SG := F_append s kind minute number; (Fr.tr (s1 := z12) (Fr.tr (s1 := s) (Fr.rf _ _) (Fr.wk (W2 := W_cevent) (fr_append s kind minute number) (by rfl))) (Fr.wk (W2 := W_cevent) (fr_mark z12 ) (by rfl))))) (by (try dsimp only); exact (Fr.rf _ _)))) (by (try dsimp only); exact (Fr.rf _ _)))))))
set_option maxRecDepth 20000 in
set_option maxHeartbeats 200000 in
theorem ux_cevent (s : SG) (kind : Int32) (minute : Int32) (number : Int32)  : UP m_X6_event 0 (m_ent 4 [.ref 0, .int kind, .int minute, .int number]) [] s (Qb (F_cevent s kind minute number)) := by
  refine UP.stp 2 (i1 := 2) (L1 := [some (.ref 0), some (.int kind), some (.int minute), some (.int number)]) (st1 := [.int 3, .int kind]) (s1 := s) rfl ?_
  refine UP.cI (M1 := m_X6_isBelow) (as := [.int kind, .int 3]) (rest := []) (T := F_isBelow s kind 3) rfl rfl (ux_isBelow s kind 3) ?_
  refine UP.spl (m_cmp .eq (F_isBelow s kind 3) 0) (((-2), s)) (bif m_cmp .eq (F_isBelow s minute 24) 0 then (((-2), s)) else (bif m_cmp .ne (F_isBelow s number 8) 0 then (bif m_cmp .lt (s 2 3) 8 then (let z12 := F_append s kind minute number; let z13 := F_mark z12 ; (z13 2 3, z13)) else (((-4), s))) else (((-2), s)))) (by first | (dsimp only [F_cevent]; done) | (dsimp only; done) | rfl) (fun cc => ?_) (fun cc => ?_)
  · skip
    refine UP.ifT rfl cc ?_
    refine UP.stp 1 (i1 := 13) (L1 := [some (.ref 0), some (.int kind), some (.int minute), some (.int number)]) (st1 := [.int (-2)]) (s1 := s) rfl ?_
    exact UP.ret (r := some (.int (-2))) rfl ⟨by first | (dsimp only [F_cevent]; done) | (dsimp only; done) | rfl, by first | (dsimp only [F_cevent]; done) | (dsimp only; done) | rfl⟩
  · skip
    refine UP.ifF rfl cc ?_
    refine UP.stp 2 (i1 := 6) (L1 := [some (.ref 0), some (.int kind), some (.int minute), some (.int number)]) (st1 := [.int 24, .int minute]) (s1 := s) rfl ?_
    refine UP.cI (M1 := m_X6_isBelow) (as := [.int minute, .int 24]) (rest := []) (T := F_isBelow s minute 24) rfl rfl (ux_isBelow s minute 24) ?_
    refine UP.spl (m_cmp .eq (F_isBelow s minute 24) 0) (((-2), s)) (bif m_cmp .ne (F_isBelow s number 8) 0 then (bif m_cmp .lt (s 2 3) 8 then (let z12 := F_append s kind minute number; let z13 := F_mark z12 ; (z13 2 3, z13)) else (((-4), s))) else (((-2), s))) (by first | (dsimp only [F_cevent]; done) | (dsimp only; done) | rfl) (fun cc => ?_) (fun cc => ?_)
    · skip
      refine UP.ifT rfl cc ?_
      refine UP.stp 1 (i1 := 13) (L1 := [some (.ref 0), some (.int kind), some (.int minute), some (.int number)]) (st1 := [.int (-2)]) (s1 := s) rfl ?_
      exact UP.ret (r := some (.int (-2))) rfl ⟨by first | (dsimp only [F_cevent]; done) | (dsimp only; done) | rfl, by first | (dsimp only [F_cevent]; done) | (dsimp only; done) | rfl⟩
    · skip
      refine UP.ifF rfl cc ?_
      refine UP.stp 2 (i1 := 10) (L1 := [some (.ref 0), some (.int kind), some (.int minute), some (.int number)]) (st1 := [.int 8, .int number]) (s1 := s) rfl ?_
      refine UP.cI (M1 := m_X6_isBelow) (as := [.int number, .int 8]) (rest := []) (T := F_isBelow s number 8) rfl rfl (ux_isBelow s number 8) ?_
      refine UP.spl (m_cmp .ne (F_isBelow s number 8) 0) (bif m_cmp .lt (s 2 3) 8 then (let z12 := F_append s kind minute number; let z13 := F_mark z12 ; (z13 2 3, z13)) else (((-4), s))) (((-2), s)) (by first | (dsimp only [F_cevent]; done) | (dsimp only; done) | rfl) (fun cc => ?_) (fun cc => ?_)
      · skip
        refine UP.ifT rfl cc ?_
        refine UP.stp 4 (i1 := 18) (L1 := [some (.ref 0), some (.int kind), some (.int minute), some (.int number)]) (st1 := [.int 8, .int (s 2 3)]) (s1 := s) rfl ?_
        refine UP.spl (m_cmp .lt (s 2 3) 8) (let z12 := F_append s kind minute number; let z13 := F_mark z12 ; (z13 2 3, z13)) (((-4), s)) (by first | (dsimp only [F_cevent]; done) | (dsimp only; done) | rfl) (fun cc => ?_) (fun cc => ?_)
        · skip
          refine UP.icT rfl cc ?_
          refine UP.stp 5 (i1 := 26) (L1 := [some (.ref 0), some (.int kind), some (.int minute), some (.int number)]) (st1 := [.int number, .int minute, .int kind, .ref 2]) (s1 := s) rfl ?_
          refine UP.cV (M1 := m_X1_append) (as := [.ref 2, .int kind, .int minute, .int number]) (rest := []) (T := F_append s kind minute number) rfl rfl (ux_append s kind minute number) (fun z12 e12 => ?_)
          refine UP.stp 1 (i1 := 28) (L1 := [some (.ref 0), some (.int kind), some (.int minute), some (.int number)]) (st1 := [.ref 0]) (s1 := z12) rfl ?_
          refine UP.cV (M1 := m_X6_markChanged) (as := [.ref 0]) (rest := []) (T := F_mark z12 ) rfl rfl (ux_mark z12 ) (fun z13 e13 => ?_)
          refine UP.stp 3 (i1 := 32) (L1 := [some (.ref 0), some (.int kind), some (.int minute), some (.int number)]) (st1 := [.int (z13 2 3)]) (s1 := z13) rfl ?_
          exact UP.ret (r := some (.int (z13 2 3))) rfl ⟨by subst e13 e12; first | (dsimp only [F_cevent]; done) | (dsimp only; done) | rfl, by subst e13 e12; first | (dsimp only [F_cevent]; done) | (dsimp only; done) | rfl⟩
        · skip
          refine UP.icF rfl cc ?_
          refine UP.stp 1 (i1 := 20) (L1 := [some (.ref 0), some (.int kind), some (.int minute), some (.int number)]) (st1 := [.int (-4)]) (s1 := s) rfl ?_
          exact UP.ret (r := some (.int (-4))) rfl ⟨by first | (dsimp only [F_cevent]; done) | (dsimp only; done) | rfl, by first | (dsimp only [F_cevent]; done) | (dsimp only; done) | rfl⟩
      · skip
        refine UP.ifF rfl cc ?_
        refine UP.stp 1 (i1 := 13) (L1 := [some (.ref 0), some (.int kind), some (.int minute), some (.int number)]) (st1 := [.int (-2)]) (s1 := s) rfl ?_
        exact UP.ret (r := some (.int (-2))) rfl ⟨by first | (dsimp only [F_cevent]; done) | (dsimp only; done) | rfl, by first | (dsimp only [F_cevent]; done) | (dsimp only; done) | rfl⟩
def W_cback : List (Nat × Nat × Option Nat) := [(0, 0, some 12), (0, 0, some 13), (2, 2, some 3)]
def F_cback (s : SG)  : Int32 × SG := bif m_cmp .ne (s 2 3) 0 then (let v3 := (s 2 3) - 1; let z4 := F_mark (uset s 2 3 v3) ; (z4 2 3, z4)) else (((-3), s))
set_option maxRecDepth 20000 in
set_option maxHeartbeats 200000 in
theorem fr_cback (s : SG)   : Fr W_cback s (F_cback s).2 := by dsimp only [F_cback]; exact (Fr.bifp (b := m_cmp .ne (s 2 3) 0) (x := let v3 := (s 2 3) - 1; let z4 := F_mark (uset s 2 3 v3) ; (z4 2 3, z4)) (y := ((-3), s)) (fun x : Int32 × SG => x.2) (by (try dsimp only); exact (let v3 : Int32 := (s 2 3) - 1; (Fr.tr (s1 := (uset s 2 3 v3)) (Fr.uset (s1 := s) (a := 2) (j := 3) (x := v3) (by rfl) (Fr.rf _ _)) (Fr.wk (W2 := W_cback) (fr_mark (uset s 2 3 v3) ) (by rfl))))) (by (try dsimp only); exact (Fr.rf _ _)))
set_option maxRecDepth 20000 in
set_option maxHeartbeats 200000 in
theorem ux_cback (s : SG)   : UP m_X6_back 0 (m_ent 1 [.ref 0]) [] s (Qb (F_cback s)) := by
  refine UP.stp 3 (i1 := 3) (L1 := [some (.ref 0)]) (st1 := [.int (s 2 3)]) (s1 := s) rfl ?_
  refine UP.spl (m_cmp .ne (s 2 3) 0) (let v3 := (s 2 3) - 1; let z4 := F_mark (uset s 2 3 v3) ; (z4 2 3, z4)) (((-3), s)) (by first | (dsimp only [F_cback]; done) | (dsimp only; done) | rfl) (fun cc => ?_) (fun cc => ?_)
  · skip
    refine UP.ifT rfl cc ?_
    refine UP.stp 6 (i1 := 12) (L1 := [some (.ref 0)]) (st1 := [.int ((s 2 3) - 1), .ref 2]) (s1 := s) rfl ?_
    refine nm (G := fun v3 => UP m_X6_back 12 [some (.ref 0)] [.int v3, .ref 2] s (Qb (let v3 := (s 2 3) - 1; let z4 := F_mark (uset s 2 3 v3) ; (z4 2 3, z4)))) ((s 2 3) - 1) (fun v3 e3 => ?_)
    refine UP.stp 2 (i1 := 14) (L1 := [some (.ref 0)]) (st1 := [.ref 0]) (s1 := (uset s 2 3 v3)) rfl ?_
    refine UP.cV (M1 := m_X6_markChanged) (as := [.ref 0]) (rest := []) (T := F_mark (uset s 2 3 v3) ) rfl rfl (ux_mark (uset s 2 3 v3) ) (fun z4 e4 => ?_)
    refine UP.stp 3 (i1 := 18) (L1 := [some (.ref 0)]) (st1 := [.int (z4 2 3)]) (s1 := z4) rfl ?_
    exact UP.ret (r := some (.int (z4 2 3))) rfl ⟨by subst e4 e3; first | (dsimp only [F_cback]; done) | (dsimp only; done) | rfl, by subst e4 e3; first | (dsimp only [F_cback]; done) | (dsimp only; done) | rfl⟩
  · skip
    refine UP.ifF rfl cc ?_
    refine UP.stp 1 (i1 := 5) (L1 := [some (.ref 0)]) (st1 := [.int (-3)]) (s1 := s) rfl ?_
    exact UP.ret (r := some (.int (-3))) rfl ⟨by first | (dsimp only [F_cback]; done) | (dsimp only; done) | rfl, by first | (dsimp only [F_cback]; done) | (dsimp only; done) | rfl⟩
def W_sappend : List (Nat × Nat × Option Nat) := [(7, 8, none), (6, 6, some 2)]
def F_sappend (s : SG) (mi : Int32) (pl : Int32) : SG := let v1 := (s 6 2) + 1; (uset (uset (uset s 7 ((s 6 2).toNatClampNeg) mi) 8 ((s 6 2).toNatClampNeg) pl) 6 2 v1)
set_option maxRecDepth 20000 in
set_option maxHeartbeats 200000 in
theorem fr_sappend (s : SG) (mi : Int32) (pl : Int32)  : Fr W_sappend s (F_sappend s mi pl) := by dsimp only [F_sappend]; exact (let v1 : Int32 := (s 6 2) + 1; (Fr.uset (s1 := (uset (uset s 7 ((s 6 2).toNatClampNeg) mi) 8 ((s 6 2).toNatClampNeg) pl)) (a := 6) (j := 2) (x := v1) (by rfl) (Fr.uset (s1 := (uset s 7 ((s 6 2).toNatClampNeg) mi)) (a := 8) (j := (s 6 2).toNatClampNeg) (x := pl) (by rfl) (Fr.uset (s1 := s) (a := 7) (j := (s 6 2).toNatClampNeg) (x := mi) (by rfl) (Fr.rf _ _)))))
set_option maxRecDepth 20000 in
set_option maxHeartbeats 200000 in
theorem ux_sappend (s : SG) (mi : Int32) (pl : Int32)  : UP m_X2_append 0 (m_ent 3 [.ref 6, .int mi, .int pl]) [] s (Qv (F_sappend s mi pl)) := by
  refine UP.stp 17 (i1 := 17) (L1 := [some (.ref 6), some (.int mi), some (.int pl)]) (st1 := [.int ((s 6 2) + 1), .ref 6]) (s1 := (uset (uset s 7 ((s 6 2).toNatClampNeg) mi) 8 ((s 6 2).toNatClampNeg) pl)) rfl ?_
  refine nm (G := fun v1 => UP m_X2_append 17 [some (.ref 6), some (.int mi), some (.int pl)] [.int v1, .ref 6] (uset (uset s 7 ((s 6 2).toNatClampNeg) mi) 8 ((s 6 2).toNatClampNeg) pl) (Qv (F_sappend s mi pl))) ((s 6 2) + 1) (fun v1 e1 => ?_)
  refine UP.stp 1 (i1 := 18) (L1 := [some (.ref 6), some (.int mi), some (.int pl)]) (st1 := []) (s1 := (uset (uset (uset s 7 ((s 6 2).toNatClampNeg) mi) 8 ((s 6 2).toNatClampNeg) pl) 6 2 v1)) rfl ?_
  exact UP.ret (r := none) rfl ⟨by subst e1; first | (dsimp only [F_sappend]; done) | (dsimp only; done) | rfl, by subst e1; first | (dsimp only [F_sappend]; done) | (dsimp only; done) | rfl⟩
