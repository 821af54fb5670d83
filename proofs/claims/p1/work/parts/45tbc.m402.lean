def W_event : List (Nat × Nat × Option Nat) := [(130, 132, none), (123, 123, some 11)]
def F_event (s : SG) (kind : Int32) (minute : Int32) (number : Int32) : Int32 × SG := bif m_cmp .eq (F_isThree s kind) 0 then (((-2), s)) else (bif m_cmp .eq (F_isMinute s minute) 0 then (((-2), s)) else (bif m_cmp .ne (F_isEight s number) 0 then (bif m_cmp .ne (s 123 11) 8 then (let v12 := (s 123 11) + 1; (v12, (uset (uset (uset (uset s 130 ((s 123 11).toNatClampNeg) kind) 131 ((s 123 11).toNatClampNeg) minute) 132 ((s 123 11).toNatClampNeg) number) 123 11 v12))) else (((-4), s))) else (((-2), s))))
set_option maxRecDepth 20000 in
set_option maxHeartbeats 200000 in
theorem fr_event (s : SG) (kind : Int32) (minute : Int32) (number : Int32)  : Fr W_event s (F_event s kind minute number).2 := by dsimp only [F_event]; exact (Fr.bifp (b := m_cmp .eq (F_isThree s kind) 0) (x := ((-2), s)) (y := bif m_cmp .eq (F_isMinute s minute) 0 then (((-2), s)) else (bif m_cmp .ne (F_isEight s number) 0 then (bif m_cmp .ne (s 123 11) 8 then (let v12 := (s 123 11) + 1; (v12, (uset (uset (uset (uset s 130 ((s 123 11).toNatClampNeg) kind) 131 ((s 123 11).toNatClampNeg) minute) 132 ((s 123 11).toNatClampNeg) number) 123 11 v12))) else (((-4), s))) else (((-2), s)))) (fun x : Int32 × SG => x.2) (by (try dsimp only); exact (Fr.rf _ _)) (by (try dsimp only); exact (Fr.bifp (b := m_cmp .eq (F_isMinute s minute) 0) (x := ((-2), s)) (y := bif m_cmp .ne (F_isEight s number) 0 then (bif m_cmp .ne (s 123 11) 8 then (let v12 := (s 123 11) + 1; (v12, (uset (uset (uset (uset s 130 ((s 123 11).toNatClampNeg) kind) 131 ((s 123 11).toNatClampNeg) minute) 132 ((s 123 11).toNatClampNeg) number) 123 11 v12))) else (((-4), s))) else (((-2), s))) (fun x : Int32 × SG => x.2) (by (try dsimp only); exact (Fr.rf _ _)) (by (try dsimp only); exact (Fr.bifp (b := m_cmp .ne (F_isEight s number) 0) (x := bif m_cmp .ne (s 123 11) 8 then (let v12 := (s 123 11) + 1; (v12, (uset (uset (uset (uset s 130 ((s 123 11).toNatClampNeg) kind) 131 ((s 123 11).toNatClampNeg) minute) 132 ((s 123 11).toNatClampNeg) number) 123 11 v12))) else (((-4), s))) (y := ((-2), s)) (fun x : Int32 × SG => x.2) (by (try dsimp only); exact (Fr.bifp (b := m_cmp .ne (s 123 11) 8) (x := let v12 := (s 123 11) + 1; (v12, (uset (uset (uset (uset s 130 ((s 123 11).toNatClampNeg) kind) 131 ((s 123 11).toNatClampNeg) minute) 132 ((s 123 11).toNatClampNeg) number) 123 11 v12))) (y := ((-4), s)) (fun x : Int32 × SG => x.2) (by (try dsimp only); exact (let v12 : Int32 := (s 123 11) + 1; (Fr.uset (s1 := (uset (uset (uset s 130 ((s 123 11).toNatClampNeg) kind) 131 ((s 123 11).toNatClampNeg) minute) 132 ((s 123 11).toNatClampNeg) number)) (a := 123) (j := 11) (x := v12) (by rfl) (Fr.uset (s1 := (uset (uset s 130 ((s 123 11).toNatClampNeg) kind) 131 ((s 123 11).toNatClampNeg) minute)) (a := 132) (j := (s 123 11).toNatClampNeg) (x := number) (by rfl) (Fr.uset (s1 := (uset s 130 ((s 123 11).toNatClampNeg) kind)) (a := 131) (j := (s 123 11).toNatClampNeg) (x := minute) (by rfl) (Fr.uset (s1 := s) (a := 130) (j := (s 123 11).toNatClampNeg) (x := kind) (by rfl) (Fr.rf _ _))))))) (by (try dsimp only); exact (Fr.rf _ _)))) (by (try dsimp only); exact (Fr.rf _ _)))))))
set_option maxRecDepth 20000 in
set_option maxHeartbeats 200000 in
theorem ux_event (s : SG) (kind : Int32) (minute : Int32) (number : Int32)  : UP m_X7_event 0 (m_ent 4 [.ref 123, .int kind, .int minute, .int number]) [] s (Qb (F_event s kind minute number)) := by
  refine UP.stp 1 (i1 := 1) (L1 := [some (.ref 123), some (.int kind), some (.int minute), some (.int number)]) (st1 := [.int kind]) (s1 := s) rfl ?_
  refine UP.cI (M1 := m_X7_isThree) (as := [.int kind]) (rest := []) (T := F_isThree s kind) rfl rfl (ux_isThree s kind) ?_
  refine UP.spl (m_cmp .eq (F_isThree s kind) 0) (((-2), s)) (bif m_cmp .eq (F_isMinute s minute) 0 then (((-2), s)) else (bif m_cmp .ne (F_isEight s number) 0 then (bif m_cmp .ne (s 123 11) 8 then (let v12 := (s 123 11) + 1; (v12, (uset (uset (uset (uset s 130 ((s 123 11).toNatClampNeg) kind) 131 ((s 123 11).toNatClampNeg) minute) 132 ((s 123 11).toNatClampNeg) number) 123 11 v12))) else (((-4), s))) else (((-2), s)))) (by first | (dsimp only [F_event]; done) | (dsimp only; done) | rfl) (fun cc => ?_) (fun cc => ?_)
  · skip
    refine UP.ifT rfl cc ?_
    refine UP.stp 1 (i1 := 10) (L1 := [some (.ref 123), some (.int kind), some (.int minute), some (.int number)]) (st1 := [.int (-2)]) (s1 := s) rfl ?_
    exact UP.ret (r := some (.int (-2))) rfl ⟨by first | (dsimp only [F_event]; done) | (dsimp only; done) | rfl, by first | (dsimp only [F_event]; done) | (dsimp only; done) | rfl⟩
  · skip
    refine UP.ifF rfl cc ?_
    refine UP.stp 1 (i1 := 4) (L1 := [some (.ref 123), some (.int kind), some (.int minute), some (.int number)]) (st1 := [.int minute]) (s1 := s) rfl ?_
    refine UP.cI (M1 := m_X7_isMinute) (as := [.int minute]) (rest := []) (T := F_isMinute s minute) rfl rfl (ux_isMinute s minute) ?_
    refine UP.spl (m_cmp .eq (F_isMinute s minute) 0) (((-2), s)) (bif m_cmp .ne (F_isEight s number) 0 then (bif m_cmp .ne (s 123 11) 8 then (let v12 := (s 123 11) + 1; (v12, (uset (uset (uset (uset s 130 ((s 123 11).toNatClampNeg) kind) 131 ((s 123 11).toNatClampNeg) minute) 132 ((s 123 11).toNatClampNeg) number) 123 11 v12))) else (((-4), s))) else (((-2), s))) (by first | (dsimp only [F_event]; done) | (dsimp only; done) | rfl) (fun cc => ?_) (fun cc => ?_)
    · skip
      refine UP.ifT rfl cc ?_
      refine UP.stp 1 (i1 := 10) (L1 := [some (.ref 123), some (.int kind), some (.int minute), some (.int number)]) (st1 := [.int (-2)]) (s1 := s) rfl ?_
      exact UP.ret (r := some (.int (-2))) rfl ⟨by first | (dsimp only [F_event]; done) | (dsimp only; done) | rfl, by first | (dsimp only [F_event]; done) | (dsimp only; done) | rfl⟩
    · skip
      refine UP.ifF rfl cc ?_
      refine UP.stp 1 (i1 := 7) (L1 := [some (.ref 123), some (.int kind), some (.int minute), some (.int number)]) (st1 := [.int number]) (s1 := s) rfl ?_
      refine UP.cI (M1 := m_X7_isEight) (as := [.int number]) (rest := []) (T := F_isEight s number) rfl rfl (ux_isEight s number) ?_
      refine UP.spl (m_cmp .ne (F_isEight s number) 0) (bif m_cmp .ne (s 123 11) 8 then (let v12 := (s 123 11) + 1; (v12, (uset (uset (uset (uset s 130 ((s 123 11).toNatClampNeg) kind) 131 ((s 123 11).toNatClampNeg) minute) 132 ((s 123 11).toNatClampNeg) number) 123 11 v12))) else (((-4), s))) (((-2), s)) (by first | (dsimp only [F_event]; done) | (dsimp only; done) | rfl) (fun cc => ?_) (fun cc => ?_)
      · skip
        refine UP.ifT rfl cc ?_
        refine UP.stp 3 (i1 := 14) (L1 := [some (.ref 123), some (.int kind), some (.int minute), some (.int number)]) (st1 := [.int 8, .int (s 123 11)]) (s1 := s) rfl ?_
        refine UP.spl (m_cmp .ne (s 123 11) 8) (let v12 := (s 123 11) + 1; (v12, (uset (uset (uset (uset s 130 ((s 123 11).toNatClampNeg) kind) 131 ((s 123 11).toNatClampNeg) minute) 132 ((s 123 11).toNatClampNeg) number) 123 11 v12))) (((-4), s)) (by first | (dsimp only [F_event]; done) | (dsimp only; done) | rfl) (fun cc => ?_) (fun cc => ?_)
        · skip
          refine UP.icT rfl cc ?_
          refine UP.stp 23 (i1 := 40) (L1 := [some (.ref 123), some (.int kind), some (.int minute), some (.int number)]) (st1 := [.int ((s 123 11) + 1), .ref 123]) (s1 := (uset (uset (uset s 130 ((s 123 11).toNatClampNeg) kind) 131 ((s 123 11).toNatClampNeg) minute) 132 ((s 123 11).toNatClampNeg) number)) rfl ?_
          refine nm (G := fun v12 => UP m_X7_event 40 [some (.ref 123), some (.int kind), some (.int minute), some (.int number)] [.int v12, .ref 123] (uset (uset (uset s 130 ((s 123 11).toNatClampNeg) kind) 131 ((s 123 11).toNatClampNeg) minute) 132 ((s 123 11).toNatClampNeg) number) (Qb (let v12 := (s 123 11) + 1; (v12, (uset (uset (uset (uset s 130 ((s 123 11).toNatClampNeg) kind) 131 ((s 123 11).toNatClampNeg) minute) 132 ((s 123 11).toNatClampNeg) number) 123 11 v12))))) ((s 123 11) + 1) (fun v12 e12 => ?_)
          refine UP.stp 3 (i1 := 43) (L1 := [some (.ref 123), some (.int kind), some (.int minute), some (.int number)]) (st1 := [.int v12]) (s1 := (uset (uset (uset (uset s 130 ((s 123 11).toNatClampNeg) kind) 131 ((s 123 11).toNatClampNeg) minute) 132 ((s 123 11).toNatClampNeg) number) 123 11 v12)) rfl ?_
          exact UP.ret (r := some (.int v12)) rfl ⟨by subst e12; first | (dsimp only [F_event]; done) | (dsimp only; done) | rfl, by subst e12; first | (dsimp only [F_event]; done) | (dsimp only; done) | rfl⟩
        · skip
          refine UP.icF rfl cc ?_
          refine UP.stp 1 (i1 := 16) (L1 := [some (.ref 123), some (.int kind), some (.int minute), some (.int number)]) (st1 := [.int (-4)]) (s1 := s) rfl ?_
          exact UP.ret (r := some (.int (-4))) rfl ⟨by first | (dsimp only [F_event]; done) | (dsimp only; done) | rfl, by first | (dsimp only [F_event]; done) | (dsimp only; done) | rfl⟩
      · skip
        refine UP.ifF rfl cc ?_
        refine UP.stp 1 (i1 := 10) (L1 := [some (.ref 123), some (.int kind), some (.int minute), some (.int number)]) (st1 := [.int (-2)]) (s1 := s) rfl ?_
        exact UP.ret (r := some (.int (-2))) rfl ⟨by first | (dsimp only [F_event]; done) | (dsimp only; done) | rfl, by first | (dsimp only [F_event]; done) | (dsimp only; done) | rfl⟩
def W_back : List (Nat × Nat × Option Nat) := [(123, 123, some 11)]
def F_back (s : SG)  : Int32 × SG := bif m_cmp .ne (s 123 11) 0 then (let v3 := (s 123 11) - 1; (v3, (uset s 123 11 v3))) else (((-3), s))
set_option maxRecDepth 20000 in
set_option maxHeartbeats 200000 in
theorem fr_back (s : SG)   : Fr W_back s (F_back s).2 := by dsimp only [F_back]; exact (Fr.bifp (b := m_cmp .ne (s 123 11) 0) (x := let v3 := (s 123 11) - 1; (v3, (uset s 123 11 v3))) (y := ((-3), s)) (fun x : Int32 × SG => x.2) (by (try dsimp only); exact (let v3 : Int32 := (s 123 11) - 1; (Fr.uset (s1 := s) (a := 123) (j := 11) (x := v3) (by rfl) (Fr.rf _ _)))) (by (try dsimp only); exact (Fr.rf _ _)))
set_option maxRecDepth 20000 in
set_option maxHeartbeats 200000 in
theorem ux_back (s : SG)   : UP m_X7_back 0 (m_ent 1 [.ref 123]) [] s (Qb (F_back s)) := by
  refine UP.stp 2 (i1 := 2) (L1 := [some (.ref 123)]) (st1 := [.int (s 123 11)]) (s1 := s) rfl ?_
  refine UP.spl (m_cmp .ne (s 123 11) 0) (let v3 := (s 123 11) - 1; (v3, (uset s 123 11 v3))) (((-3), s)) (by first | (dsimp only [F_back]; done) | (dsimp only; done) | rfl) (fun cc => ?_) (fun cc => ?_)
  · skip
    refine UP.ifT rfl cc ?_
    refine UP.stp 5 (i1 := 10) (L1 := [some (.ref 123)]) (st1 := [.int ((s 123 11) - 1), .ref 123]) (s1 := s) rfl ?_
    refine nm (G := fun v3 => UP m_X7_back 10 [some (.ref 123)] [.int v3, .ref 123] s (Qb (let v3 := (s 123 11) - 1; (v3, (uset s 123 11 v3))))) ((s 123 11) - 1) (fun v3 e3 => ?_)
    refine UP.stp 3 (i1 := 13) (L1 := [some (.ref 123)]) (st1 := [.int v3]) (s1 := (uset s 123 11 v3)) rfl ?_
    exact UP.ret (r := some (.int v3)) rfl ⟨by subst e3; first | (dsimp only [F_back]; done) | (dsimp only; done) | rfl, by subst e3; first | (dsimp only [F_back]; done) | (dsimp only; done) | rfl⟩
  · skip
    refine UP.ifF rfl cc ?_
    refine UP.stp 1 (i1 := 4) (L1 := [some (.ref 123)]) (st1 := [.int (-3)]) (s1 := s) rfl ?_
    exact UP.ret (r := some (.int (-3))) rfl ⟨by first | (dsimp only [F_back]; done) | (dsimp only; done) | rfl, by first | (dsimp only [F_back]; done) | (dsimp only; done) | rfl⟩
