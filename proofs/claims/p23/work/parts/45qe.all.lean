section
def W_event : List (Nat × Nat × Option Nat) := [(130, 132, none), (123, 123, some 11)]
def F_event (s : SG) (kind : Int32) (minute : Int32) (number : Int32) : Int32 × SG := bif m_cmp .eq (F_isThree s kind) 0 then (((-2), s)) else (bif m_cmp .eq (F_isMinute s minute) 0 then (((-2), s)) else (bif m_cmp .ne (F_isEight s number) 0 then (bif m_cmp .ne (s 123 11) 8 then (let v12 := (s 123 11) + 1; (v12, (uset (uset (uset (uset s 130 ((s 123 11).toNatClampNeg) kind) 131 ((s 123 11).toNatClampNeg) minute) 132 ((s 123 11).toNatClampNeg) number) 123 11 v12))) else (((-4), s))) else (((-2), s))))
set_option maxRecDepth 20000 in
set_option maxHeartbeats 200000 in
theorem fr_event (s : SG) (kind : Int32) (minute : Int32) (number : Int32)  : Fr W_event s (F_event s kind minute number).2 := by dsimp only [F_event]; exact (Fr.bifp (b := m_cmp .eq (F_isThree s kind) 0) (x := ((-2), s)) (y := bif m_cmp .eq (F_isMinute s minute) 0 then (((-2), s)) else (bif m_cmp .ne (F_isEight s number) 0 then (bif m_cmp .ne (s 123 11) 8 then (let v12 := (s 123 11) + 1; (v12, (uset (uset (uset (uset s 130 ((s 123 11).toNatClampNeg) kind) 131 ((s 123 11).toNatClampNeg) minute) 132 ((s 123 11).toNatClampNeg) number) 123 11 v12))) else (((-4), s))) else (((-2), s)))) (fun x : Int32 × SG => x.2) (by (try dsimp only); exact (Fr.rf _ _)) (by (try dsimp only); exact (Fr.bifp (b := m_cmp .eq (F_isMinute s minute) 0) (x := ((-2), s)) (y := bif m_cmp .ne (F_isEight s number) 0 then (bif m_cmp .ne (s 123 11) 8 then (let v12 := (s 123 11) + 1; (v12, (uset (uset (uset (uset s 130 ((s 123 11).toNatClampNeg) kind) 131 ((s 123 11).toNatClampNeg) minute) 132 ((s 123 11).toNatClampNeg) number) 123 11 v12))) else (((-4), s))) else (((-2), s))) (fun x : Int32 × SG => x.2) (by (try dsimp only); exact (Fr.rf _ _)) (by (try dsimp only); exact (Fr.bifp (b := m_cmp .ne (F_isEight s number) 0) (x := bif m_cmp .ne (s 123 11) 8 then (let v12 := (s 123 11) + 1; (v12, (uset (uset (uset (uset s 130 ((s 123 11).toNatClampNeg) kind) 131 ((s 123 11).toNatClampNeg) minute) 132 ((s 123 11).toNatClampNeg) number) 123 11 v12))) else (((-4), s))) (y := ((-2), s)) (fun x : Int32 × SG => x.2) (by (try dsimp only); exact (Fr.bifp (b := m_cmp .ne (s 123 11) 8) (x := let v12 := (s 123 11) + 1; (v12, (uset (uset (uset (uset s 130 ((s 123 11).toNatClampNeg) kind) 131 ((s 123 11).toNatClampNeg) minute) 132 ((s 123 11).toNatClampNeg) number) 123 11 v12))) (y := ((-4), s)) (fun x : Int32 × SG => x.2) (by (try dsimp only); exact (let v12 : Int32 := (s 123 11) + 1; (Fr.uset (s1 := (uset (uset (uset s 130 ((s 123 11).toNatClampNeg) kind) 131 ((s 123 11).toNatClampNeg) minute) 132 ((s 123 11).toNatClampNeg) number)) (a := 123) (j := 11) (x := v12) (by rfl) (Fr.uset (s1 := (uset (uset s 130 ((s 123 11).toNatClampNeg) kind) 131 ((s 123 11).toNatClampNeg) minute)) (a := 132) (j := (s 123 11).toNatClampNeg) (x := number) (by rfl) (Fr.uset (s1 := (uset s 130 ((s 123 11).toNatClampNeg) kind)) (a := 131) (j := (s 123 11).toNatClampNeg) (x := minute) (by rfl) (Fr.uset (s1 := s) (a := 130) (j := (s 123 11).toNatClampNeg) (x := kind) (by rfl) (Fr.rf _ _))))))) (by (try dsimp only); exact (Fr.rf _ _)))) (by (try dsimp only); exact (Fr.rf _ _)))))))
set_option maxRecDepth 20000 in
set_option maxHeartbeats 200000 in
theorem ux_event (s : SG) (kind : Int32) (minute : Int32) (number : Int32)  : UP m_X7_event 0 (m_ent 4 [.ref 123, .int kind, .int minute, .int number]) [] s (Qb (F_event s kind minute number)) := by
  refine UP.stp 1 (i1 := 1) (L1 := [some (.ref 123), some (.int kind), some (.int minute), some (.int number)]) (st1 := [.int kind]) (s1 := s) rfl ?_
  refine UP.cI (M1 := m_X7_isThree) (as := [.int kind]) (rest := []) (T := F_isThree s kind) rfl rfl (ux_isThree s kind) ?_
  refine UP.spl (m_cmp .eq (F_isThree s kind) 0) (((-2), s)) (bif m_cmp .eq (F_isMinute s minute) 0 then (((-2), s)) else (bif m_cmp .ne (F_isEight s number) 0 then (bif m_cmp .ne (s 123 11) 8 then (let v12 := (s 123 11) + 1; (v12, (uset (uset (uset (uset s 130 ((s 123 11).toNatClampNeg) kind) 131 ((s 123 11).toNatClampNeg) minute) 132 ((s 123 11).toNatClampNeg) number) 123 11 v12))) else (((-4), s))) else (((-2), s)))) (by first | (dsimp only [F_event]; done) | (dsimp only; done) | rfl) (fun cc => ?_) (fun cc => ?_)
  · skip
    refine UP.ifT rfl cc ?_
    refine UP.stp 1 (i1 := 10) (L1 := [some (.ref 123), some (.int kind), some (.int minute), some (.int number)]) (st1 := [.int (-2)]) (s1 := s) rfl ?_
    exact UP.ret (r := some (.int (-2))) rfl ⟨by first | (dsimp only [F_event]; done) | (dsimp only; done) | rfl, by first | (dsimp only [F_event]; done) | (dsimp only; done) | rfl⟩
  · skip
    refine UP.ifF rfl cc ?_
    refine UP.stp 1 (i1 := 4) (L1 := [some (.ref 123), some (.int kind), some (.int minute), some (.int number)]) (st1 := [.int minute]) (s1 := s) rfl ?_
    refine UP.cI (M1 := m_X7_isMinute) (as := [.int minute]) (rest := []) (T := F_isMinute s minute) rfl rfl (ux_isMinute s minute) ?_
    refine UP.spl (m_cmp .eq (F_isMinute s minute) 0) (((-2), s)) (bif m_cmp .ne (F_isEight s number) 0 then (bif m_cmp .ne (s 123 11) 8 then (let v12 := (s 123 11) + 1; (v12, (uset (uset (uset (uset s 130 ((s 123 11).toNatClampNeg) kind) 131 ((s 123 11).toNatClampNeg) minute) 132 ((s 123 11).toNatClampNeg) number) 123 11 v12))) else (((-4), s))) else (((-2), s))) (by first | (dsimp only [F_event]; done) | (dsimp only; done) | rfl) (fun cc => ?_) (fun cc => ?_)
    · skip
      refine UP.ifT rfl cc ?_
      refine UP.stp 1 (i1 := 10) (L1 := [some (.ref 123), some (.int kind), some (.int minute), some (.int number)]) (st1 := [.int (-2)]) (s1 := s) rfl ?_
      exact UP.ret (r := some (.int (-2))) rfl ⟨by first | (dsimp only [F_event]; done) | (dsimp only; done) | rfl, by first | (dsimp only [F_event]; done) | (dsimp only; done) | rfl⟩
    · skip
      refine UP.ifF rfl cc ?_
      refine UP.stp 1 (i1 := 7) (L1 := [some (.ref 123), some (.int kind), some (.int minute), some (.int number)]) (st1 := [.int number]) (s1 := s) rfl ?_
      refine UP.cI (M1 := m_X7_isEight) (as := [.int number]) (rest := []) (T := F_isEight s number) rfl rfl (ux_isEight s number) ?_
      refine UP.spl (m_cmp .ne (F_isEight s number) 0) (bif m_cmp .ne (s 123 11) 8 then (let v12 := (s 123 11) + 1; (v12, (uset (uset (uset (uset s 130 ((s 123 11).toNatClampNeg) kind) 131 ((s 123 11).toNatClampNeg) minute) 132 ((s 123 11).toNatClampNeg) number) 123 11 v12))) else (((-4), s))) (((-2), s)) (by first | (dsimp only [F_event]; done) | (dsimp only; done) | rfl) (fun cc => ?_) (fun cc => ?_)
      · skip
        refine UP.ifT rfl cc ?_
        refine UP.stp 3 (i1 := 14) (L1 := [some (.ref 123), some (.int kind), some (.int minute), some (.int number)]) (st1 := [.int 8, .int (s 123 11)]) (s1 := s) rfl ?_
        refine UP.spl (m_cmp .ne (s 123 11) 8) (let v12 := (s 123 11) + 1; (v12, (uset (uset (uset (uset s 130 ((s 123 11).toNatClampNeg) kind) 131 ((s 123 11).toNatClampNeg) minute) 132 ((s 123 11).toNatClampNeg) number) 123 11 v12))) (((-4), s)) (by first | (dsimp only [F_event]; done) | (dsimp only; done) | rfl) (fun cc => ?_) (fun cc => ?_)
        · skip
          refine UP.icT rfl cc ?_
          refine UP.stp 23 (i1 := 40) (L1 := [some (.ref 123), some (.int kind), some (.int minute), some (.int number)]) (st1 := [.int ((s 123 11) + 1), .ref 123]) (s1 := (uset (uset (uset s 130 ((s 123 11).toNatClampNeg) kind) 131 ((s 123 11).toNatClampNeg) minute) 132 ((s 123 11).toNatClampNeg) number)) rfl ?_
          refine nm (G := fun v12 => UP m_X7_event 40 [some (.ref 123), some (.int kind), some (.int minute), some (.int number)] [.int v12, .ref 123] (uset (uset (uset s 130 ((s 123 11).toNatClampNeg) kind) 131 ((s 123 11).toNatClampNeg) minute) 132 ((s 123 11).toNatClampNeg) number) (Qb (let v12 := (s 123 11) + 1; (v12, (uset (uset (uset (uset s 130 ((s 123 11).toNatClampNeg) kind) 131 ((s 123 11).toNatClampNeg) minute) 132 ((s 123 11).toNatClampNeg) number) 123 11 v12))))) ((s 123 11) + 1) (fun v12 e12 => ?_)
          refine UP.stp 3 (i1 := 43) (L1 := [some (.ref 123), some (.int kind), some (.int minute), some (.int number)]) (st1 := [.int v12]) (s1 := (uset (uset (uset (uset s 130 ((s 123 11).toNatClampNeg) kind) 131 ((s 123 11).toNatClampNeg) minute) 132 ((s 123 11).toNatClampNeg) number) 123 11 v12)) rfl ?_
          exact UP.ret (r := some (.int v12)) rfl ⟨by subst e12; first | (dsimp only [F_event]; done) | (dsimp only; done) | rfl, by subst e12; first | (dsimp only [F_event]; done) | (dsimp only; done) | rfl⟩
        · skip
          refine UP.icF rfl cc ?_
          refine UP.stp 1 (i1 := 16) (L1 := [some (.ref 123), some (.int kind), some (.int minute), some (.int number)]) (st1 := [.int (-4)]) (s1 := s) rfl ?_
          exact UP.ret (r := some (.int (-4))) rfl ⟨by first | (dsimp only [F_event]; done) | (dsimp only; done) | rfl, by first | (dsimp only [F_event]; done) | (dsimp only; done) | rfl⟩
      · skip
        refine UP.ifF rfl cc ?_
        refine UP.stp 1 (i1 := 10) (L1 := [some (.ref 123), some (.int kind), some (.int minute), some (.int number)]) (st1 := [.int (-2)]) (s1 := s) rfl ?_
        exact UP.ret (r := some (.int (-2))) rfl ⟨by first | (dsimp only [F_event]; done) | (dsimp only; done) | rfl, by first | (dsimp only [F_event]; done) | (dsimp only; done) | rfl⟩
def W_back : List (Nat × Nat × Option Nat) := [(123, 123, some 11)]
def F_back (s : SG)  : Int32 × SG := bif m_cmp .ne (s 123 11) 0 then (let v3 := (s 123 11) - 1; (v3, (uset s 123 11 v3))) else (((-3), s))
set_option maxRecDepth 20000 in
set_option maxHeartbeats 200000 in
theorem fr_back (s : SG)   : Fr W_back s (F_back s).2 := by dsimp only [F_back]; exact (Fr.bifp (b := m_cmp .ne (s 123 11) 0) (x := let v3 := (s 123 11) - 1; (v3, (uset s 123 11 v3))) (y := ((-3), s)) (fun x : Int32 × SG => x.2) (by (try dsimp only); exact (let v3 : Int32 := (s 123 11) - 1; (Fr.uset (s1 := s) (a := 123) (j := 11) (x := v3) (by rfl) (Fr.rf _ _)))) (by (try dsimp only); exact (Fr.rf _ _)))
set_option maxRecDepth 20000 in
set_option maxHeartbeats 200000 in
theorem ux_back (s : SG)   : UP m_X7_back 0 (m_ent 1 [.ref 123]) [] s (Qb (F_back s)) := by
  refine UP.stp 2 (i1 := 2) (L1 := [some (.ref 123)]) (st1 := [.int (s 123 11)]) (s1 := s) rfl ?_
  refine UP.spl (m_cmp .ne (s 123 11) 0) (let v3 := (s 123 11) - 1; (v3, (uset s 123 11 v3))) (((-3), s)) (by first | (dsimp only [F_back]; done) | (dsimp only; done) | rfl) (fun cc => ?_) (fun cc => ?_)
  · skip
    refine UP.ifT rfl cc ?_
    refine UP.stp 5 (i1 := 10) (L1 := [some (.ref 123)]) (st1 := [.int ((s 123 11) - 1), .ref 123]) (s1 := s) rfl ?_
    refine nm (G := fun v3 => UP m_X7_back 10 [some (.ref 123)] [.int v3, .ref 123] s (Qb (let v3 := (s 123 11) - 1; (v3, (uset s 123 11 v3))))) ((s 123 11) - 1) (fun v3 e3 => ?_)
    refine UP.stp 3 (i1 := 13) (L1 := [some (.ref 123)]) (st1 := [.int v3]) (s1 := (uset s 123 11 v3)) rfl ?_
    exact UP.ret (r := some (.int v3)) rfl ⟨by subst e3; first | (dsimp only [F_back]; done) | (dsimp only; done) | rfl, by subst e3; first | (dsimp only [F_back]; done) | (dsimp only; done) | rfl⟩
  · skip
    refine UP.ifF rfl cc ?_
    refine UP.stp 1 (i1 := 4) (L1 := [some (.ref 123)]) (st1 := [.int (-3)]) (s1 := s) rfl ?_
    exact UP.ret (r := some (.int (-3))) rfl ⟨by first | (dsimp only [F_back]; done) | (dsimp only; done) | rfl, by first | (dsimp only [F_back]; done) | (dsimp only; done) | rfl⟩
end
section
def W_seen : List (Nat × Nat × Option Nat) := [(145, 146, none), (123, 123, some 37)]
def F_seen (s : SG) (minute : Int32) (place : Int32) : Int32 × SG := bif m_cmp .eq (F_isMinute s minute) 0 then (((-2), s)) else (bif m_cmp .ne (F_in s place 0 20) 0 then (bif m_cmp .ne (s 123 37) 8 then (let v9 := (s 123 37) + 1; (v9, (uset (uset (uset s 145 ((s 123 37).toNatClampNeg) minute) 146 ((s 123 37).toNatClampNeg) place) 123 37 v9))) else (((-4), s))) else (((-2), s)))
set_option maxRecDepth 20000 in
set_option maxHeartbeats 200000 in
theorem fr_seen (s : SG) (minute : Int32) (place : Int32)  : Fr W_seen s (F_seen s minute place).2 := by dsimp only [F_seen]; exact (Fr.bifp (b := m_cmp .eq (F_isMinute s minute) 0) (x := ((-2), s)) (y := bif m_cmp .ne (F_in s place 0 20) 0 then (bif m_cmp .ne (s 123 37) 8 then (let v9 := (s 123 37) + 1; (v9, (uset (uset (uset s 145 ((s 123 37).toNatClampNeg) minute) 146 ((s 123 37).toNatClampNeg) place) 123 37 v9))) else (((-4), s))) else (((-2), s))) (fun x : Int32 × SG => x.2) (by (try dsimp only); exact (Fr.rf _ _)) (by (try dsimp only); exact (Fr.bifp (b := m_cmp .ne (F_in s place 0 20) 0) (x := bif m_cmp .ne (s 123 37) 8 then (let v9 := (s 123 37) + 1; (v9, (uset (uset (uset s 145 ((s 123 37).toNatClampNeg) minute) 146 ((s 123 37).toNatClampNeg) place) 123 37 v9))) else (((-4), s))) (y := ((-2), s)) (fun x : Int32 × SG => x.2) (by (try dsimp only); exact (Fr.bifp (b := m_cmp .ne (s 123 37) 8) (x := let v9 := (s 123 37) + 1; (v9, (uset (uset (uset s 145 ((s 123 37).toNatClampNeg) minute) 146 ((s 123 37).toNatClampNeg) place) 123 37 v9))) (y := ((-4), s)) (fun x : Int32 × SG => x.2) (by (try dsimp only); exact (let v9 : Int32 := (s 123 37) + 1; (Fr.uset (s1 := (uset (uset s 145 ((s 123 37).toNatClampNeg) minute) 146 ((s 123 37).toNatClampNeg) place)) (a := 123) (j := 37) (x := v9) (by rfl) (Fr.uset (s1 := (uset s 145 ((s 123 37).toNatClampNeg) minute)) (a := 146) (j := (s 123 37).toNatClampNeg) (x := place) (by rfl) (Fr.uset (s1 := s) (a := 145) (j := (s 123 37).toNatClampNeg) (x := minute) (by rfl) (Fr.rf _ _)))))) (by (try dsimp only); exact (Fr.rf _ _)))) (by (try dsimp only); exact (Fr.rf _ _)))))
set_option maxRecDepth 20000 in
set_option maxHeartbeats 200000 in
theorem ux_seen (s : SG) (minute : Int32) (place : Int32)  : UP m_X7_seen 0 (m_ent 3 [.ref 123, .int minute, .int place]) [] s (Qb (F_seen s minute place)) := by
  refine UP.stp 1 (i1 := 1) (L1 := [some (.ref 123), some (.int minute), some (.int place)]) (st1 := [.int minute]) (s1 := s) rfl ?_
  refine UP.cI (M1 := m_X7_isMinute) (as := [.int minute]) (rest := []) (T := F_isMinute s minute) rfl rfl (ux_isMinute s minute) ?_
  refine UP.spl (m_cmp .eq (F_isMinute s minute) 0) (((-2), s)) (bif m_cmp .ne (F_in s place 0 20) 0 then (bif m_cmp .ne (s 123 37) 8 then (let v9 := (s 123 37) + 1; (v9, (uset (uset (uset s 145 ((s 123 37).toNatClampNeg) minute) 146 ((s 123 37).toNatClampNeg) place) 123 37 v9))) else (((-4), s))) else (((-2), s))) (by first | (dsimp only [F_seen]; done) | (dsimp only; done) | rfl) (fun cc => ?_) (fun cc => ?_)
  · skip
    refine UP.ifT rfl cc ?_
    refine UP.stp 1 (i1 := 9) (L1 := [some (.ref 123), some (.int minute), some (.int place)]) (st1 := [.int (-2)]) (s1 := s) rfl ?_
    exact UP.ret (r := some (.int (-2))) rfl ⟨by first | (dsimp only [F_seen]; done) | (dsimp only; done) | rfl, by first | (dsimp only [F_seen]; done) | (dsimp only; done) | rfl⟩
  · skip
    refine UP.ifF rfl cc ?_
    refine UP.stp 3 (i1 := 6) (L1 := [some (.ref 123), some (.int minute), some (.int place)]) (st1 := [.int 20, .int 0, .int place]) (s1 := s) rfl ?_
    refine UP.cI (M1 := m_X7_in) (as := [.int place, .int 0, .int 20]) (rest := []) (T := F_in s place 0 20) rfl rfl (ux_in s place 0 20) ?_
    refine UP.spl (m_cmp .ne (F_in s place 0 20) 0) (bif m_cmp .ne (s 123 37) 8 then (let v9 := (s 123 37) + 1; (v9, (uset (uset (uset s 145 ((s 123 37).toNatClampNeg) minute) 146 ((s 123 37).toNatClampNeg) place) 123 37 v9))) else (((-4), s))) (((-2), s)) (by first | (dsimp only [F_seen]; done) | (dsimp only; done) | rfl) (fun cc => ?_) (fun cc => ?_)
    · skip
      refine UP.ifT rfl cc ?_
      refine UP.stp 3 (i1 := 13) (L1 := [some (.ref 123), some (.int minute), some (.int place)]) (st1 := [.int 8, .int (s 123 37)]) (s1 := s) rfl ?_
      refine UP.spl (m_cmp .ne (s 123 37) 8) (let v9 := (s 123 37) + 1; (v9, (uset (uset (uset s 145 ((s 123 37).toNatClampNeg) minute) 146 ((s 123 37).toNatClampNeg) place) 123 37 v9))) (((-4), s)) (by first | (dsimp only [F_seen]; done) | (dsimp only; done) | rfl) (fun cc => ?_) (fun cc => ?_)
      · skip
        refine UP.icT rfl cc ?_
        refine UP.stp 17 (i1 := 33) (L1 := [some (.ref 123), some (.int minute), some (.int place)]) (st1 := [.int ((s 123 37) + 1), .ref 123]) (s1 := (uset (uset s 145 ((s 123 37).toNatClampNeg) minute) 146 ((s 123 37).toNatClampNeg) place)) rfl ?_
        refine nm (G := fun v9 => UP m_X7_seen 33 [some (.ref 123), some (.int minute), some (.int place)] [.int v9, .ref 123] (uset (uset s 145 ((s 123 37).toNatClampNeg) minute) 146 ((s 123 37).toNatClampNeg) place) (Qb (let v9 := (s 123 37) + 1; (v9, (uset (uset (uset s 145 ((s 123 37).toNatClampNeg) minute) 146 ((s 123 37).toNatClampNeg) place) 123 37 v9))))) ((s 123 37) + 1) (fun v9 e9 => ?_)
        refine UP.stp 3 (i1 := 36) (L1 := [some (.ref 123), some (.int minute), some (.int place)]) (st1 := [.int v9]) (s1 := (uset (uset (uset s 145 ((s 123 37).toNatClampNeg) minute) 146 ((s 123 37).toNatClampNeg) place) 123 37 v9)) rfl ?_
        exact UP.ret (r := some (.int v9)) rfl ⟨by subst e9; first | (dsimp only [F_seen]; done) | (dsimp only; done) | rfl, by subst e9; first | (dsimp only [F_seen]; done) | (dsimp only; done) | rfl⟩
      · skip
        refine UP.icF rfl cc ?_
        refine UP.stp 1 (i1 := 15) (L1 := [some (.ref 123), some (.int minute), some (.int place)]) (st1 := [.int (-4)]) (s1 := s) rfl ?_
        exact UP.ret (r := some (.int (-4))) rfl ⟨by first | (dsimp only [F_seen]; done) | (dsimp only; done) | rfl, by first | (dsimp only [F_seen]; done) | (dsimp only; done) | rfl⟩
    · skip
      refine UP.ifF rfl cc ?_
      refine UP.stp 1 (i1 := 9) (L1 := [some (.ref 123), some (.int minute), some (.int place)]) (st1 := [.int (-2)]) (s1 := s) rfl ?_
      exact UP.ret (r := some (.int (-2))) rfl ⟨by first | (dsimp only [F_seen]; done) | (dsimp only; done) | rfl, by first | (dsimp only [F_seen]; done) | (dsimp only; done) | rfl⟩
def W_forget : List (Nat × Nat × Option Nat) := [(123, 123, some 37)]
def F_forget (s : SG)  : Int32 × SG := let v1 := s 123 37; (v1, (uset s 123 37 0))
set_option maxRecDepth 20000 in
set_option maxHeartbeats 200000 in
theorem fr_forget (s : SG)   : Fr W_forget s (F_forget s).2 := by dsimp only [F_forget]; exact (Fr.uset (s1 := s) (a := 123) (j := 37) (x := 0) (by rfl) (Fr.rf _ _))
set_option maxRecDepth 20000 in
set_option maxHeartbeats 200000 in
theorem ux_forget (s : SG)   : UP m_X7_forget 0 (m_ent 2 [.ref 123]) [] s (Qb (F_forget s)) := by
  refine UP.stp 2 (i1 := 2) (L1 := [some (.ref 123), none]) (st1 := [.int (s 123 37)]) (s1 := s) rfl ?_
  refine nm (G := fun v1 => UP m_X7_forget 2 [some (.ref 123), none] [.int v1] s (Qb (F_forget s))) (s 123 37) (fun v1 e1 => ?_)
  refine UP.stp 5 (i1 := 7) (L1 := [some (.ref 123), some (.int v1)]) (st1 := [.int v1]) (s1 := (uset s 123 37 0)) rfl ?_
  exact UP.ret (r := some (.int v1)) rfl ⟨by subst e1; first | (dsimp only [F_forget]; done) | (dsimp only; done) | rfl, by subst e1; first | (dsimp only [F_forget]; done) | (dsimp only; done) | rfl⟩
end
section
def W_sheet : List (Nat × Nat × Option Nat) := [(148, 151, none), (123, 123, some 46)]
def B_sheet_36 (s_ : Int32) (i11 : Nat) (a11 : SG) : SG := (uset a11 151 (((60 * s_) + (Int32.ofNat i11)).toNatClampNeg) 0)
set_option maxRecDepth 20000 in
set_option maxHeartbeats 200000 in
theorem fr_B_sheet_36 (s_ : Int32) (i11 : Nat) (a11 : SG)  (hi11 : i11 < 60) : Fr W_sheet a11 ((B_sheet_36 s_) i11 a11) := by dsimp only [B_sheet_36]; exact (Fr.uset (s1 := a11) (a := 151) (j := ((60 * s_) + (Int32.ofNat i11)).toNatClampNeg) (x := 0) (by rfl) (Fr.rf _ _))
def F_sheet (s : SG) (s_ : Int32) (form : Int32) (n : Int32) : Int32 × SG := bif m_cmp .eq (F_isSheet s s_) 0 then (((-2), s)) else (bif m_cmp .eq (F_in s form 0 2) 0 then (((-2), s)) else (bif m_cmp .le n 60 then (bif m_cmp .ge n 0 then (let z11 := itr (B_sheet_36 s_) 0 60 (uset (uset (uset s 148 s_.toNatClampNeg 1) 149 s_.toNatClampNeg form) 150 s_.toNatClampNeg n); (n, z11)) else (let z12 := F_meets s 5; z12)) else (((-2), s))))
set_option maxRecDepth 20000 in
set_option maxHeartbeats 200000 in
theorem fr_sheet (s : SG) (s_ : Int32) (form : Int32) (n : Int32)  : Fr W_sheet s (F_sheet s s_ form n).2 := by dsimp only [F_sheet]; exact (Fr.bifp (b := m_cmp .eq (F_isSheet s s_) 0) (x := ((-2), s)) (y := bif m_cmp .eq (F_in s form 0 2) 0 then (((-2), s)) else (bif m_cmp .le n 60 then (bif m_cmp .ge n 0 then (let z11 := itr (B_sheet_36 s_) 0 60 (uset (uset (uset s 148 s_.toNatClampNeg 1) 149 s_.toNatClampNeg form) 150 s_.toNatClampNeg n); (n, z11)) else (let z12 := F_meets s 5; z12)) else (((-2), s)))) (fun x : Int32 × SG => x.2) (by (try dsimp only); exact (Fr.rf _ _)) (by (try dsimp only); exact (Fr.bifp (b := m_cmp .eq (F_in s form 0 2) 0) (x := ((-2), s)) (y := bif m_cmp .le n 60 then (bif m_cmp .ge n 0 then (let z11 := itr (B_sheet_36 s_) 0 60 (uset (uset (uset s 148 s_.toNatClampNeg 1) 149 s_.toNatClampNeg form) 150 s_.toNatClampNeg n); (n, z11)) else (let z12 := F_meets s 5; z12)) else (((-2), s))) (fun x : Int32 × SG => x.2) (by (try dsimp only); exact (Fr.rf _ _)) (by (try dsimp only); exact (Fr.bifp (b := m_cmp .le n 60) (x := bif m_cmp .ge n 0 then (let z11 := itr (B_sheet_36 s_) 0 60 (uset (uset (uset s 148 s_.toNatClampNeg 1) 149 s_.toNatClampNeg form) 150 s_.toNatClampNeg n); (n, z11)) else (let z12 := F_meets s 5; z12)) (y := ((-2), s)) (fun x : Int32 × SG => x.2) (by (try dsimp only); exact (Fr.bifp (b := m_cmp .ge n 0) (x := let z11 := itr (B_sheet_36 s_) 0 60 (uset (uset (uset s 148 s_.toNatClampNeg 1) 149 s_.toNatClampNeg form) 150 s_.toNatClampNeg n); (n, z11)) (y := let z12 := F_meets s 5; z12) (fun x : Int32 × SG => x.2) (by (try dsimp only); exact (frItrB (W := W_sheet) (m := (fun x : SG => x)) (f := (B_sheet_36 s_)) 60 (fun ii aa hh => Fr.wk (W2 := W_sheet) (fr_B_sheet_36 s_ ii aa  hh) (by rfl)) 60 0 (uset (uset (uset s 148 s_.toNatClampNeg 1) 149 s_.toNatClampNeg form) 150 s_.toNatClampNeg n) (by omega) (Fr.uset (s1 := (uset (uset s 148 s_.toNatClampNeg 1) 149 s_.toNatClampNeg form)) (a := 150) (j := s_.toNatClampNeg) (x := n) (by rfl) (Fr.uset (s1 := (uset s 148 s_.toNatClampNeg 1)) (a := 149) (j := s_.toNatClampNeg) (x := form) (by rfl) (Fr.uset (s1 := s) (a := 148) (j := s_.toNatClampNeg) (x := 1) (by rfl) (Fr.rf _ _)))))) (by (try dsimp only); exact (Fr.tr (s1 := s) (Fr.rf _ _) (Fr.wk (W2 := W_sheet) (fr_meets s 5) (by rfl)))))) (by (try dsimp only); exact (Fr.rf _ _)))))))
set_option maxRecDepth 20000 in
set_option maxHeartbeats 200000 in
theorem ux_sheet (s : SG) (s_ : Int32) (form : Int32) (n : Int32)  : UP m_X7_sheet 0 (m_ent 5 [.ref 123, .int s_, .int form, .int n]) [] s (Qb (F_sheet s s_ form n)) := by
  refine UP.stp 1 (i1 := 1) (L1 := [some (.ref 123), some (.int s_), some (.int form), some (.int n), none]) (st1 := [.int s_]) (s1 := s) rfl ?_
  refine UP.cI (M1 := m_X7_isSheet) (as := [.int s_]) (rest := []) (T := F_isSheet s s_) rfl rfl (ux_isSheet s s_) ?_
  refine UP.spl (m_cmp .eq (F_isSheet s s_) 0) (((-2), s)) (bif m_cmp .eq (F_in s form 0 2) 0 then (((-2), s)) else (bif m_cmp .le n 60 then (bif m_cmp .ge n 0 then (let z11 := itr (B_sheet_36 s_) 0 60 (uset (uset (uset s 148 s_.toNatClampNeg 1) 149 s_.toNatClampNeg form) 150 s_.toNatClampNeg n); (n, z11)) else (let z12 := F_meets s 5; z12)) else (((-2), s)))) (by first | (dsimp only [F_sheet]; done) | (dsimp only; done) | rfl) (fun cc => ?_) (fun cc => ?_)
  · skip
    refine UP.ifT rfl cc ?_
    refine UP.stp 1 (i1 := 12) (L1 := [some (.ref 123), some (.int s_), some (.int form), some (.int n), none]) (st1 := [.int (-2)]) (s1 := s) rfl ?_
    exact UP.ret (r := some (.int (-2))) rfl ⟨by first | (dsimp only [F_sheet]; done) | (dsimp only; done) | rfl, by first | (dsimp only [F_sheet]; done) | (dsimp only; done) | rfl⟩
  · skip
    refine UP.ifF rfl cc ?_
    refine UP.stp 3 (i1 := 6) (L1 := [some (.ref 123), some (.int s_), some (.int form), some (.int n), none]) (st1 := [.int 2, .int 0, .int form]) (s1 := s) rfl ?_
    refine UP.cI (M1 := m_X7_in) (as := [.int form, .int 0, .int 2]) (rest := []) (T := F_in s form 0 2) rfl rfl (ux_in s form 0 2) ?_
    refine UP.spl (m_cmp .eq (F_in s form 0 2) 0) (((-2), s)) (bif m_cmp .le n 60 then (bif m_cmp .ge n 0 then (let z11 := itr (B_sheet_36 s_) 0 60 (uset (uset (uset s 148 s_.toNatClampNeg 1) 149 s_.toNatClampNeg form) 150 s_.toNatClampNeg n); (n, z11)) else (let z12 := F_meets s 5; z12)) else (((-2), s))) (by first | (dsimp only [F_sheet]; done) | (dsimp only; done) | rfl) (fun cc => ?_) (fun cc => ?_)
    · skip
      refine UP.ifT rfl cc ?_
      refine UP.stp 1 (i1 := 12) (L1 := [some (.ref 123), some (.int s_), some (.int form), some (.int n), none]) (st1 := [.int (-2)]) (s1 := s) rfl ?_
      exact UP.ret (r := some (.int (-2))) rfl ⟨by first | (dsimp only [F_sheet]; done) | (dsimp only; done) | rfl, by first | (dsimp only [F_sheet]; done) | (dsimp only; done) | rfl⟩
    · skip
      refine UP.ifF rfl cc ?_
      refine UP.stp 2 (i1 := 10) (L1 := [some (.ref 123), some (.int s_), some (.int form), some (.int n), none]) (st1 := [.int 60, .int n]) (s1 := s) rfl ?_
      refine UP.spl (m_cmp .le n 60) (bif m_cmp .ge n 0 then (let z11 := itr (B_sheet_36 s_) 0 60 (uset (uset (uset s 148 s_.toNatClampNeg 1) 149 s_.toNatClampNeg form) 150 s_.toNatClampNeg n); (n, z11)) else (let z12 := F_meets s 5; z12)) (((-2), s)) (by first | (dsimp only [F_sheet]; done) | (dsimp only; done) | rfl) (fun cc => ?_) (fun cc => ?_)
      · skip
        refine UP.icT rfl cc ?_
        refine UP.stp 1 (i1 := 14) (L1 := [some (.ref 123), some (.int s_), some (.int form), some (.int n), none]) (st1 := [.int n]) (s1 := s) rfl ?_
        refine UP.spl (m_cmp .ge n 0) (let z11 := itr (B_sheet_36 s_) 0 60 (uset (uset (uset s 148 s_.toNatClampNeg 1) 149 s_.toNatClampNeg form) 150 s_.toNatClampNeg n); (n, z11)) (let z12 := F_meets s 5; z12) (by first | (dsimp only [F_sheet]; done) | (dsimp only; done) | rfl) (fun cc => ?_) (fun cc => ?_)
        · skip
          refine UP.ifT rfl cc ?_
          refine UP.stp 17 (i1 := 36) (L1 := [some (.ref 123), some (.int s_), some (.int form), some (.int n), some (.int 0)]) (st1 := []) (s1 := (uset (uset (uset s 148 s_.toNatClampNeg 1) 149 s_.toNatClampNeg form) 150 s_.toNatClampNeg n)) rfl ?_
          refine lp (fun (i11 : Nat) (a11 : SG) => ∀ (u11_2 : Option Value), UP m_X7_sheet 36 [some (.ref 123), some (.int s_), u11_2, some (.int n), some (.int (Int32.ofNat i11))] [] a11 (Qb (let z11 := itr (B_sheet_36 s_) 0 60 (uset (uset (uset s 148 s_.toNatClampNeg 1) 149 s_.toNatClampNeg form) 150 s_.toNatClampNeg n); (n, z11)))) (fun (_ : Nat) (a11 : SG) => Fr W_sheet (uset (uset (uset s 148 s_.toNatClampNeg 1) 149 s_.toNatClampNeg form) 150 s_.toNatClampNeg n) a11) (B_sheet_36 s_) (60) (fun i11 a11 hi11 g11 => g11.tr (fr_B_sheet_36 s_ i11 a11 hi11)) (fun i11 a11 hi11 g11 kk => ?_) 60 (0) (uset (uset (uset s 148 s_.toNatClampNeg 1) 149 s_.toNatClampNeg form) 150 s_.toNatClampNeg n) (by  omega) (Fr.rf _ _) (fun z11 e11 g11 => ?_) (some (.int form))
          · skip
            intro u11_2
            refine UP.stp 2 (i1 := 38) (L1 := [some (.ref 123), some (.int s_), u11_2, some (.int n), some (.int (Int32.ofNat i11))]) (st1 := [.int 60, .int (Int32.ofNat i11)]) (s1 := a11) rfl ?_
            refine UP.icF rfl (ge_F (show i11 < (60 : Int32).toNatClampNeg from hi11)) ?_
            refine UP.stp 11 (i1 := 36) (L1 := [some (.ref 123), some (.int s_), u11_2, some (.int n), some (.int ((Int32.ofNat i11) + 1))]) (st1 := []) (s1 := (uset a11 151 (((60 * s_) + (Int32.ofNat i11)).toNatClampNeg) 0)) rfl ?_
            rw [ofn_s]
            try dsimp only [B_sheet_36] at kk
            exact kk _
          intro u11_2
          refine UP.stp 2 (i1 := 38) (L1 := [some (.ref 123), some (.int s_), u11_2, some (.int n), some (.int (Int32.ofNat 60))]) (st1 := [.int 60, .int (Int32.ofNat 60)]) (s1 := z11) rfl ?_
          refine UP.icT rfl (ge_T (60 : Int32)) ?_
          refine UP.stp 1 (i1 := 51) (L1 := [some (.ref 123), some (.int s_), u11_2, some (.int n), some (.int (Int32.ofNat 60))]) (st1 := [.int n]) (s1 := z11) rfl ?_
          exact UP.ret (r := some (.int n)) rfl ⟨by subst e11; first | (dsimp only [F_sheet]; done) | (dsimp only; done) | rfl, by subst e11; first | (dsimp only [F_sheet]; done) | (dsimp only; done) | rfl⟩
        · skip
          refine UP.ifF rfl cc ?_
          refine UP.stp 2 (i1 := 17) (L1 := [some (.ref 123), some (.int s_), some (.int form), some (.int n), none]) (st1 := [.int 5, .ref 123]) (s1 := s) rfl ?_
          refine UP.cB (M1 := m_X7_meets) (as := [.ref 123, .int 5]) (rest := []) (T := F_meets s 5) rfl rfl (ux_meets s 5) (fun z12 e12 => ?_)
          exact UP.ret (r := some (.int z12.1)) rfl ⟨by subst e12; first | (dsimp only [F_sheet]; done) | (dsimp only; done) | rfl, by subst e12; first | (dsimp only [F_sheet]; done) | (dsimp only; done) | rfl⟩
      · skip
        refine UP.icF rfl cc ?_
        refine UP.stp 1 (i1 := 12) (L1 := [some (.ref 123), some (.int s_), some (.int form), some (.int n), none]) (st1 := [.int (-2)]) (s1 := s) rfl ?_
        exact UP.ret (r := some (.int (-2))) rfl ⟨by first | (dsimp only [F_sheet]; done) | (dsimp only; done) | rfl, by first | (dsimp only [F_sheet]; done) | (dsimp only; done) | rfl⟩
end
section
def W_lose : List (Nat × Nat × Option Nat) := [(148, 148, none), (123, 123, some 46)]
def F_lose (s : SG) (s_ : Int32) : Int32 × SG := bif m_cmp .ne (F_isSheet s s_) 0 then (bif m_cmp .ne (s 148 s_.toNatClampNeg) 0 then ((s 150 s_.toNatClampNeg, (uset s 148 s_.toNatClampNeg 0))) else (let z6 := F_meets s 1; z6)) else (((-2), s))
set_option maxRecDepth 20000 in
set_option maxHeartbeats 200000 in
theorem fr_lose (s : SG) (s_ : Int32)  : Fr W_lose s (F_lose s s_).2 := by dsimp only [F_lose]; exact (Fr.bifp (b := m_cmp .ne (F_isSheet s s_) 0) (x := bif m_cmp .ne (s 148 s_.toNatClampNeg) 0 then ((s 150 s_.toNatClampNeg, (uset s 148 s_.toNatClampNeg 0))) else (let z6 := F_meets s 1; z6)) (y := ((-2), s)) (fun x : Int32 × SG => x.2) (by (try dsimp only); exact (Fr.bifp (b := m_cmp .ne (s 148 s_.toNatClampNeg) 0) (x := (s 150 s_.toNatClampNeg, (uset s 148 s_.toNatClampNeg 0))) (y := let z6 := F_meets s 1; z6) (fun x : Int32 × SG => x.2) (by (try dsimp only); exact (Fr.uset (s1 := s) (a := 148) (j := s_.toNatClampNeg) (x := 0) (by rfl) (Fr.rf _ _))) (by (try dsimp only); exact (Fr.tr (s1 := s) (Fr.rf _ _) (Fr.wk (W2 := W_lose) (fr_meets s 1) (by rfl)))))) (by (try dsimp only); exact (Fr.rf _ _)))
set_option maxRecDepth 20000 in
set_option maxHeartbeats 200000 in
theorem ux_lose (s : SG) (s_ : Int32)  : UP m_X7_lose 0 (m_ent 2 [.ref 123, .int s_]) [] s (Qb (F_lose s s_)) := by
  refine UP.stp 1 (i1 := 1) (L1 := [some (.ref 123), some (.int s_)]) (st1 := [.int s_]) (s1 := s) rfl ?_
  refine UP.cI (M1 := m_X7_isSheet) (as := [.int s_]) (rest := []) (T := F_isSheet s s_) rfl rfl (ux_isSheet s s_) ?_
  refine UP.spl (m_cmp .ne (F_isSheet s s_) 0) (bif m_cmp .ne (s 148 s_.toNatClampNeg) 0 then ((s 150 s_.toNatClampNeg, (uset s 148 s_.toNatClampNeg 0))) else (let z6 := F_meets s 1; z6)) (((-2), s)) (by first | (dsimp only [F_lose]; done) | (dsimp only; done) | rfl) (fun cc => ?_) (fun cc => ?_)
  · skip
    refine UP.ifT rfl cc ?_
    refine UP.stp 4 (i1 := 9) (L1 := [some (.ref 123), some (.int s_)]) (st1 := [.int (s 148 s_.toNatClampNeg)]) (s1 := s) rfl ?_
    refine UP.spl (m_cmp .ne (s 148 s_.toNatClampNeg) 0) ((s 150 s_.toNatClampNeg, (uset s 148 s_.toNatClampNeg 0))) (let z6 := F_meets s 1; z6) (by first | (dsimp only [F_lose]; done) | (dsimp only; done) | rfl) (fun cc => ?_) (fun cc => ?_)
    · skip
      refine UP.ifT rfl cc ?_
      refine UP.stp 9 (i1 := 23) (L1 := [some (.ref 123), some (.int s_)]) (st1 := [.int (s 150 s_.toNatClampNeg)]) (s1 := (uset s 148 s_.toNatClampNeg 0)) rfl ?_
      exact UP.ret (r := some (.int (s 150 s_.toNatClampNeg))) rfl ⟨by first | (dsimp only [F_lose]; done) | (dsimp only; done) | rfl, by first | (dsimp only [F_lose]; done) | (dsimp only; done) | rfl⟩
    · skip
      refine UP.ifF rfl cc ?_
      refine UP.stp 2 (i1 := 12) (L1 := [some (.ref 123), some (.int s_)]) (st1 := [.int 1, .ref 123]) (s1 := s) rfl ?_
      refine UP.cB (M1 := m_X7_meets) (as := [.ref 123, .int 1]) (rest := []) (T := F_meets s 1) rfl rfl (ux_meets s 1) (fun z6 e6 => ?_)
      exact UP.ret (r := some (.int z6.1)) rfl ⟨by subst e6; first | (dsimp only [F_lose]; done) | (dsimp only; done) | rfl, by subst e6; first | (dsimp only [F_lose]; done) | (dsimp only; done) | rfl⟩
  · skip
    refine UP.ifF rfl cc ?_
    refine UP.stp 1 (i1 := 4) (L1 := [some (.ref 123), some (.int s_)]) (st1 := [.int (-2)]) (s1 := s) rfl ?_
    exact UP.ret (r := some (.int (-2))) rfl ⟨by first | (dsimp only [F_lose]; done) | (dsimp only; done) | rfl, by first | (dsimp only [F_lose]; done) | (dsimp only; done) | rfl⟩
def W_lacks : List (Nat × Nat × Option Nat) := []
def F_lacks (s : SG) (s_ : Int32) (form : Int32) (i : Int32) : Int32 := let v4 := bif m_cmp .ne (s 148 s_.toNatClampNeg) 0 then (bif m_cmp .eq (s 149 s_.toNatClampNeg) form then (bif m_cmp .eq (F_in s i 0 ((s 150 s_.toNatClampNeg) - 1)) 0 then (2 : Int32) else (0 : Int32)) else (3 : Int32)) else (1 : Int32); v4
set_option maxRecDepth 20000 in
set_option maxHeartbeats 200000 in
theorem ux_lacks (s : SG) (s_ : Int32) (form : Int32) (i : Int32)  : UP m_X7_lacks 0 (m_ent 4 [.ref 123, .int s_, .int form, .int i]) [] s (Qi s (F_lacks s s_ form i)) := by
  refine UP.stp 4 (i1 := 4) (L1 := [some (.ref 123), some (.int s_), some (.int form), some (.int i)]) (st1 := [.int (s 148 s_.toNatClampNeg)]) (s1 := s) rfl ?_
  refine mrg (m_cmp .ne (s 148 s_.toNatClampNeg) 0) (bif m_cmp .eq (s 149 s_.toNatClampNeg) form then (bif m_cmp .eq (F_in s i 0 ((s 150 s_.toNatClampNeg) - 1)) 0 then (2 : Int32) else (0 : Int32)) else (3 : Int32)) (1 : Int32) (fun v4 : Int32 => UP m_X7_lacks 28 [some (.ref 123), some (.int s_), some (.int form), some (.int i)] [.int v4] s (Qi s (F_lacks s s_ form i))) (fun cc kk => ?_) (fun cc kk => ?_) (fun v4 e4 => ?_)
  · skip
    refine UP.ifT rfl cc ?_
    refine UP.stp 5 (i1 := 12) (L1 := [some (.ref 123), some (.int s_), some (.int form), some (.int i)]) (st1 := [.int form, .int (s 149 s_.toNatClampNeg)]) (s1 := s) rfl ?_
    refine mrg (m_cmp .eq (s 149 s_.toNatClampNeg) form) (bif m_cmp .eq (F_in s i 0 ((s 150 s_.toNatClampNeg) - 1)) 0 then (2 : Int32) else (0 : Int32)) (3 : Int32) (fun v3 : Int32 => UP m_X7_lacks 28 [some (.ref 123), some (.int s_), some (.int form), some (.int i)] [.int v3] s (Qi s (F_lacks s s_ form i))) (fun cc kk => ?_) (fun cc kk => ?_) (fun v3 e3 => ?_)
    · skip
      refine UP.icT rfl cc ?_
      refine UP.stp 8 (i1 := 23) (L1 := [some (.ref 123), some (.int s_), some (.int form), some (.int i)]) (st1 := [.int ((s 150 s_.toNatClampNeg) - 1), .int 0, .int i]) (s1 := s) rfl ?_
      refine UP.cI (M1 := m_X7_in) (as := [.int i, .int 0, .int ((s 150 s_.toNatClampNeg) - 1)]) (rest := []) (T := F_in s i 0 ((s 150 s_.toNatClampNeg) - 1)) rfl rfl (ux_in s i 0 ((s 150 s_.toNatClampNeg) - 1)) ?_
      refine mrg (m_cmp .eq (F_in s i 0 ((s 150 s_.toNatClampNeg) - 1)) 0) (2 : Int32) (0 : Int32) (fun v2 : Int32 => UP m_X7_lacks 28 [some (.ref 123), some (.int s_), some (.int form), some (.int i)] [.int v2] s (Qi s (F_lacks s s_ form i))) (fun cc kk => ?_) (fun cc kk => ?_) (fun v2 e2 => ?_)
      · skip
        refine UP.ifT rfl cc ?_
        refine UP.stp 1 (i1 := 28) (L1 := [some (.ref 123), some (.int s_), some (.int form), some (.int i)]) (st1 := [.int 2]) (s1 := s) rfl ?_
        exact kk
      · skip
        refine UP.ifF rfl cc ?_
        refine UP.stp 2 (i1 := 28) (L1 := [some (.ref 123), some (.int s_), some (.int form), some (.int i)]) (st1 := [.int 0]) (s1 := s) rfl ?_
        exact kk
      subst e2
      exact kk
    · skip
      refine UP.icF rfl cc ?_
      refine UP.stp 2 (i1 := 28) (L1 := [some (.ref 123), some (.int s_), some (.int form), some (.int i)]) (st1 := [.int 3]) (s1 := s) rfl ?_
      exact kk
    subst e3
    exact kk
  · skip
    refine UP.ifF rfl cc ?_
    refine UP.stp 2 (i1 := 28) (L1 := [some (.ref 123), some (.int s_), some (.int form), some (.int i)]) (st1 := [.int 1]) (s1 := s) rfl ?_
    exact kk
  exact UP.ret (r := some (.int v4)) rfl ⟨by subst e4; first | (dsimp only [F_lacks]; done) | (dsimp only; done) | rfl, by subst e4; first | (dsimp only [F_lacks]; done) | (dsimp only; done) | rfl⟩
def W_keep : List (Nat × Nat × Option Nat) := [(151, 151, none)]
def F_keep (s : SG) (s_ : Int32) (i : Int32) (v : Int32) : SG := let v2 := bif m_cmp .ne (s 149 s_.toNatClampNeg) 0 then (bif m_cmp .ne (s 149 s_.toNatClampNeg) 1 then v else v.toInt16.toInt32) else v.toInt8.toInt32; (uset s 151 (((60 * s_) + i).toNatClampNeg) v2)
set_option maxRecDepth 20000 in
set_option maxHeartbeats 200000 in
theorem fr_keep (s : SG) (s_ : Int32) (i : Int32) (v : Int32)  : Fr W_keep s (F_keep s s_ i v) := by dsimp only [F_keep]; exact (let v2 : Int32 := bif m_cmp .ne (s 149 s_.toNatClampNeg) 0 then (bif m_cmp .ne (s 149 s_.toNatClampNeg) 1 then v else v.toInt16.toInt32) else v.toInt8.toInt32; (Fr.uset (s1 := s) (a := 151) (j := ((60 * s_) + i).toNatClampNeg) (x := v2) (by rfl) (Fr.rf _ _)))
set_option maxRecDepth 20000 in
set_option maxHeartbeats 200000 in
theorem ux_keep (s : SG) (s_ : Int32) (i : Int32) (v : Int32)  : UP m_X7_keep 0 (m_ent 4 [.ref 123, .int s_, .int i, .int v]) [] s (Qv (F_keep s s_ i v)) := by
  refine UP.stp 11 (i1 := 11) (L1 := [some (.ref 123), some (.int s_), some (.int i), some (.int v)]) (st1 := [.int (s 149 s_.toNatClampNeg), .int ((60 * s_) + i), .ref 151]) (s1 := s) rfl ?_
  refine mrg (m_cmp .ne (s 149 s_.toNatClampNeg) 0) (bif m_cmp .ne (s 149 s_.toNatClampNeg) 1 then v else v.toInt16.toInt32) v.toInt8.toInt32 (fun v2 : Int32 => UP m_X7_keep 25 [some (.ref 123), some (.int s_), some (.int i), some (.int v)] [.int v2, .int ((60 * s_) + i), .ref 151] s (Qv (F_keep s s_ i v))) (fun cc kk => ?_) (fun cc kk => ?_) (fun v2 e2 => ?_)
  · skip
    refine UP.ifT rfl cc ?_
    refine UP.stp 5 (i1 := 20) (L1 := [some (.ref 123), some (.int s_), some (.int i), some (.int v)]) (st1 := [.int 1, .int (s 149 s_.toNatClampNeg), .int ((60 * s_) + i), .ref 151]) (s1 := s) rfl ?_
    refine mrg (m_cmp .ne (s 149 s_.toNatClampNeg) 1) v v.toInt16.toInt32 (fun v1 : Int32 => UP m_X7_keep 25 [some (.ref 123), some (.int s_), some (.int i), some (.int v)] [.int v1, .int ((60 * s_) + i), .ref 151] s (Qv (F_keep s s_ i v))) (fun cc kk => ?_) (fun cc kk => ?_) (fun v1 e1 => ?_)
    · skip
      refine UP.icT rfl cc ?_
      refine UP.stp 1 (i1 := 25) (L1 := [some (.ref 123), some (.int s_), some (.int i), some (.int v)]) (st1 := [.int v, .int ((60 * s_) + i), .ref 151]) (s1 := s) rfl ?_
      exact kk
    · skip
      refine UP.icF rfl cc ?_
      refine UP.stp 3 (i1 := 25) (L1 := [some (.ref 123), some (.int s_), some (.int i), some (.int v)]) (st1 := [.int v.toInt16.toInt32, .int ((60 * s_) + i), .ref 151]) (s1 := s) rfl ?_
      exact kk
    subst e1
    exact kk
  · skip
    refine UP.ifF rfl cc ?_
    refine UP.stp 3 (i1 := 25) (L1 := [some (.ref 123), some (.int s_), some (.int i), some (.int v)]) (st1 := [.int v.toInt8.toInt32, .int ((60 * s_) + i), .ref 151]) (s1 := s) rfl ?_
    exact kk
  refine UP.stp 1 (i1 := 26) (L1 := [some (.ref 123), some (.int s_), some (.int i), some (.int v)]) (st1 := []) (s1 := (uset s 151 (((60 * s_) + i).toNatClampNeg) v2)) rfl ?_
  exact UP.ret (r := none) rfl ⟨by subst e2; first | (dsimp only [F_keep]; done) | (dsimp only; done) | rfl, by subst e2; first | (dsimp only [F_keep]; done) | (dsimp only; done) | rfl⟩
end
section
def W_put : List (Nat × Nat × Option Nat) := [(151, 151, none), (123, 123, some 46)]
def F_put (s : SG) (s_ : Int32) (form : Int32) (i : Int32) (v : Int32) : Int32 × SG := bif m_cmp .eq (F_isSheet s s_) 0 then (((-2), s)) else (bif m_cmp .ne (F_in s form 0 2) 0 then (let v8 := F_lacks s s_ form i; bif m_cmp .le v8 0 then (let z11 := F_keep s s_ i v; (1, z11)) else (let z12 := F_meets s v8; z12)) else (((-2), s)))
set_option maxRecDepth 20000 in
set_option maxHeartbeats 200000 in
theorem fr_put (s : SG) (s_ : Int32) (form : Int32) (i : Int32) (v : Int32)  : Fr W_put s (F_put s s_ form i v).2 := by dsimp only [F_put]; exact (Fr.bifp (b := m_cmp .eq (F_isSheet s s_) 0) (x := ((-2), s)) (y := bif m_cmp .ne (F_in s form 0 2) 0 then (let v8 := F_lacks s s_ form i; bif m_cmp .le v8 0 then (let z11 := F_keep s s_ i v; (1, z11)) else (let z12 := F_meets s v8; z12)) else (((-2), s))) (fun x : Int32 × SG => x.2) (by (try dsimp only); exact (Fr.rf _ _)) (by (try dsimp only); exact (Fr.bifp (b := m_cmp .ne (F_in s form 0 2) 0) (x := let v8 := F_lacks s s_ form i; bif m_cmp .le v8 0 then (let z11 := F_keep s s_ i v; (1, z11)) else (let z12 := F_meets s v8; z12)) (y := ((-2), s)) (fun x : Int32 × SG => x.2) (by (try dsimp only); exact (let v8 : Int32 := F_lacks s s_ form i; (Fr.bifp (b := m_cmp .le v8 0) (x := let z11 := F_keep s s_ i v; (1, z11)) (y := let z12 := F_meets s v8; z12) (fun x : Int32 × SG => x.2) (by (try dsimp only); exact (Fr.tr (s1 := s) (Fr.rf _ _) (Fr.wk (W2 := W_put) (fr_keep s s_ i v) (by rfl)))) (by (try dsimp only); exact (Fr.tr (s1 := s) (Fr.rf _ _) (Fr.wk (W2 := W_put) (fr_meets s v8) (by rfl))))))) (by (try dsimp only); exact (Fr.rf _ _)))))
set_option maxRecDepth 20000 in
set_option maxHeartbeats 200000 in
theorem ux_put (s : SG) (s_ : Int32) (form : Int32) (i : Int32) (v : Int32)  : UP m_X7_put 0 (m_ent 6 [.ref 123, .int s_, .int form, .int i, .int v]) [] s (Qb (F_put s s_ form i v)) := by
  refine UP.stp 1 (i1 := 1) (L1 := [some (.ref 123), some (.int s_), some (.int form), some (.int i), some (.int v), none]) (st1 := [.int s_]) (s1 := s) rfl ?_
  refine UP.cI (M1 := m_X7_isSheet) (as := [.int s_]) (rest := []) (T := F_isSheet s s_) rfl rfl (ux_isSheet s s_) ?_
  refine UP.spl (m_cmp .eq (F_isSheet s s_) 0) (((-2), s)) (bif m_cmp .ne (F_in s form 0 2) 0 then (let v8 := F_lacks s s_ form i; bif m_cmp .le v8 0 then (let z11 := F_keep s s_ i v; (1, z11)) else (let z12 := F_meets s v8; z12)) else (((-2), s))) (by first | (dsimp only [F_put]; done) | (dsimp only; done) | rfl) (fun cc => ?_) (fun cc => ?_)
  · skip
    refine UP.ifT rfl cc ?_
    refine UP.stp 1 (i1 := 9) (L1 := [some (.ref 123), some (.int s_), some (.int form), some (.int i), some (.int v), none]) (st1 := [.int (-2)]) (s1 := s) rfl ?_
    exact UP.ret (r := some (.int (-2))) rfl ⟨by first | (dsimp only [F_put]; done) | (dsimp only; done) | rfl, by first | (dsimp only [F_put]; done) | (dsimp only; done) | rfl⟩
  · skip
    refine UP.ifF rfl cc ?_
    refine UP.stp 3 (i1 := 6) (L1 := [some (.ref 123), some (.int s_), some (.int form), some (.int i), some (.int v), none]) (st1 := [.int 2, .int 0, .int form]) (s1 := s) rfl ?_
    refine UP.cI (M1 := m_X7_in) (as := [.int form, .int 0, .int 2]) (rest := []) (T := F_in s form 0 2) rfl rfl (ux_in s form 0 2) ?_
    refine UP.spl (m_cmp .ne (F_in s form 0 2) 0) (let v8 := F_lacks s s_ form i; bif m_cmp .le v8 0 then (let z11 := F_keep s s_ i v; (1, z11)) else (let z12 := F_meets s v8; z12)) (((-2), s)) (by first | (dsimp only [F_put]; done) | (dsimp only; done) | rfl) (fun cc => ?_) (fun cc => ?_)
    · skip
      refine UP.ifT rfl cc ?_
      refine UP.stp 4 (i1 := 14) (L1 := [some (.ref 123), some (.int s_), some (.int form), some (.int i), some (.int v), none]) (st1 := [.int i, .int form, .int s_, .ref 123]) (s1 := s) rfl ?_
      refine UP.cI (M1 := m_X7_lacks) (as := [.ref 123, .int s_, .int form, .int i]) (rest := []) (T := F_lacks s s_ form i) rfl rfl (ux_lacks s s_ form i) ?_
      refine nm (G := fun v8 => UP m_X7_put 15 [some (.ref 123), some (.int s_), some (.int form), some (.int i), some (.int v), none] [.int v8] s (Qb (let v8 := F_lacks s s_ form i; bif m_cmp .le v8 0 then (let z11 := F_keep s s_ i v; (1, z11)) else (let z12 := F_meets s v8; z12)))) (F_lacks s s_ form i) (fun v8 e8 => ?_)
      refine UP.stp 2 (i1 := 17) (L1 := [some (.ref 123), some (.int s_), some (.int form), some (.int i), some (.int v), some (.int v8)]) (st1 := [.int v8]) (s1 := s) rfl ?_
      refine UP.spl (m_cmp .le v8 0) (let z11 := F_keep s s_ i v; (1, z11)) (let z12 := F_meets s v8; z12) (by subst e8; first | (dsimp only [F_put]; done) | (dsimp only; done) | rfl) (fun cc => ?_) (fun cc => ?_)
      · skip
        refine UP.ifT rfl cc ?_
        refine UP.stp 4 (i1 := 26) (L1 := [some (.ref 123), some (.int s_), some (.int form), some (.int i), some (.int v), some (.int v8)]) (st1 := [.int v, .int i, .int s_, .ref 123]) (s1 := s) rfl ?_
        refine UP.cV (M1 := m_X7_keep) (as := [.ref 123, .int s_, .int i, .int v]) (rest := []) (T := F_keep s s_ i v) rfl rfl (ux_keep s s_ i v) (fun z11 e11 => ?_)
        refine UP.stp 1 (i1 := 28) (L1 := [some (.ref 123), some (.int s_), some (.int form), some (.int i), some (.int v), some (.int v8)]) (st1 := [.int 1]) (s1 := z11) rfl ?_
        exact UP.ret (r := some (.int 1)) rfl ⟨by subst e11 e8; first | (dsimp only [F_put]; done) | (dsimp only; done) | rfl, by subst e11 e8; first | (dsimp only [F_put]; done) | (dsimp only; done) | rfl⟩
      · skip
        refine UP.ifF rfl cc ?_
        refine UP.stp 2 (i1 := 20) (L1 := [some (.ref 123), some (.int s_), some (.int form), some (.int i), some (.int v), some (.int v8)]) (st1 := [.int v8, .ref 123]) (s1 := s) rfl ?_
        refine UP.cB (M1 := m_X7_meets) (as := [.ref 123, .int v8]) (rest := []) (T := F_meets s v8) rfl rfl (ux_meets s v8) (fun z12 e12 => ?_)
        exact UP.ret (r := some (.int z12.1)) rfl ⟨by subst e12 e8; first | (dsimp only [F_put]; done) | (dsimp only; done) | rfl, by subst e12 e8; first | (dsimp only [F_put]; done) | (dsimp only; done) | rfl⟩
    · skip
      refine UP.ifF rfl cc ?_
      refine UP.stp 1 (i1 := 9) (L1 := [some (.ref 123), some (.int s_), some (.int form), some (.int i), some (.int v), none]) (st1 := [.int (-2)]) (s1 := s) rfl ?_
      exact UP.ret (r := some (.int (-2))) rfl ⟨by first | (dsimp only [F_put]; done) | (dsimp only; done) | rfl, by first | (dsimp only [F_put]; done) | (dsimp only; done) | rfl⟩
end
section
def W_get : List (Nat × Nat × Option Nat) := [(123, 123, some 46)]
def F_get (s : SG) (s_ : Int32) (form : Int32) (i : Int32) : Int32 × SG := bif m_cmp .eq (F_isSheet s s_) 0 then (((-2147483648), s)) else (bif m_cmp .ne (F_in s form 0 2) 0 then (let v8 := F_lacks s s_ form i; bif m_cmp .le v8 0 then ((s 151 (((60 * s_) + i).toNatClampNeg), s)) else (((-2147483648), (uset s 123 46 v8)))) else (((-2147483648), s)))
set_option maxRecDepth 20000 in
set_option maxHeartbeats 200000 in
theorem fr_get (s : SG) (s_ : Int32) (form : Int32) (i : Int32)  : Fr W_get s (F_get s s_ form i).2 := by dsimp only [F_get]; exact (Fr.bifp (b := m_cmp .eq (F_isSheet s s_) 0) (x := ((-2147483648), s)) (y := bif m_cmp .ne (F_in s form 0 2) 0 then (let v8 := F_lacks s s_ form i; bif m_cmp .le v8 0 then ((s 151 (((60 * s_) + i).toNatClampNeg), s)) else (((-2147483648), (uset s 123 46 v8)))) else (((-2147483648), s))) (fun x : Int32 × SG => x.2) (by (try dsimp only); exact (Fr.rf _ _)) (by (try dsimp only); exact (Fr.bifp (b := m_cmp .ne (F_in s form 0 2) 0) (x := let v8 := F_lacks s s_ form i; bif m_cmp .le v8 0 then ((s 151 (((60 * s_) + i).toNatClampNeg), s)) else (((-2147483648), (uset s 123 46 v8)))) (y := ((-2147483648), s)) (fun x : Int32 × SG => x.2) (by (try dsimp only); exact (let v8 : Int32 := F_lacks s s_ form i; (Fr.bifp (b := m_cmp .le v8 0) (x := (s 151 (((60 * s_) + i).toNatClampNeg), s)) (y := ((-2147483648), (uset s 123 46 v8))) (fun x : Int32 × SG => x.2) (by (try dsimp only); exact (Fr.rf _ _)) (by (try dsimp only); exact (Fr.uset (s1 := s) (a := 123) (j := 46) (x := v8) (by rfl) (Fr.rf _ _)))))) (by (try dsimp only); exact (Fr.rf _ _)))))
set_option maxRecDepth 20000 in
set_option maxHeartbeats 200000 in
theorem ux_get (s : SG) (s_ : Int32) (form : Int32) (i : Int32)  : UP m_X7_get 0 (m_ent 5 [.ref 123, .int s_, .int form, .int i]) [] s (Qb (F_get s s_ form i)) := by
  refine UP.stp 1 (i1 := 1) (L1 := [some (.ref 123), some (.int s_), some (.int form), some (.int i), none]) (st1 := [.int s_]) (s1 := s) rfl ?_
  refine UP.cI (M1 := m_X7_isSheet) (as := [.int s_]) (rest := []) (T := F_isSheet s s_) rfl rfl (ux_isSheet s s_) ?_
  refine UP.spl (m_cmp .eq (F_isSheet s s_) 0) (((-2147483648), s)) (bif m_cmp .ne (F_in s form 0 2) 0 then (let v8 := F_lacks s s_ form i; bif m_cmp .le v8 0 then ((s 151 (((60 * s_) + i).toNatClampNeg), s)) else (((-2147483648), (uset s 123 46 v8)))) else (((-2147483648), s))) (by first | (dsimp only [F_get]; done) | (dsimp only; done) | rfl) (fun cc => ?_) (fun cc => ?_)
  · skip
    refine UP.ifT rfl cc ?_
    refine UP.stp 1 (i1 := 9) (L1 := [some (.ref 123), some (.int s_), some (.int form), some (.int i), none]) (st1 := [.int (-2147483648)]) (s1 := s) rfl ?_
    exact UP.ret (r := some (.int (-2147483648))) rfl ⟨by first | (dsimp only [F_get]; done) | (dsimp only; done) | rfl, by first | (dsimp only [F_get]; done) | (dsimp only; done) | rfl⟩
  · skip
    refine UP.ifF rfl cc ?_
    refine UP.stp 3 (i1 := 6) (L1 := [some (.ref 123), some (.int s_), some (.int form), some (.int i), none]) (st1 := [.int 2, .int 0, .int form]) (s1 := s) rfl ?_
    refine UP.cI (M1 := m_X7_in) (as := [.int form, .int 0, .int 2]) (rest := []) (T := F_in s form 0 2) rfl rfl (ux_in s form 0 2) ?_
    refine UP.spl (m_cmp .ne (F_in s form 0 2) 0) (let v8 := F_lacks s s_ form i; bif m_cmp .le v8 0 then ((s 151 (((60 * s_) + i).toNatClampNeg), s)) else (((-2147483648), (uset s 123 46 v8)))) (((-2147483648), s)) (by first | (dsimp only [F_get]; done) | (dsimp only; done) | rfl) (fun cc => ?_) (fun cc => ?_)
    · skip
      refine UP.ifT rfl cc ?_
      refine UP.stp 4 (i1 := 14) (L1 := [some (.ref 123), some (.int s_), some (.int form), some (.int i), none]) (st1 := [.int i, .int form, .int s_, .ref 123]) (s1 := s) rfl ?_
      refine UP.cI (M1 := m_X7_lacks) (as := [.ref 123, .int s_, .int form, .int i]) (rest := []) (T := F_lacks s s_ form i) rfl rfl (ux_lacks s s_ form i) ?_
      refine nm (G := fun v8 => UP m_X7_get 15 [some (.ref 123), some (.int s_), some (.int form), some (.int i), none] [.int v8] s (Qb (let v8 := F_lacks s s_ form i; bif m_cmp .le v8 0 then ((s 151 (((60 * s_) + i).toNatClampNeg), s)) else (((-2147483648), (uset s 123 46 v8)))))) (F_lacks s s_ form i) (fun v8 e8 => ?_)
      refine UP.stp 2 (i1 := 17) (L1 := [some (.ref 123), some (.int s_), some (.int form), some (.int i), some (.int v8)]) (st1 := [.int v8]) (s1 := s) rfl ?_
      refine UP.spl (m_cmp .le v8 0) ((s 151 (((60 * s_) + i).toNatClampNeg), s)) (((-2147483648), (uset s 123 46 v8))) (by subst e8; first | (dsimp only [F_get]; done) | (dsimp only; done) | rfl) (fun cc => ?_) (fun cc => ?_)
      · skip
        refine UP.ifT rfl cc ?_
        refine UP.stp 8 (i1 := 31) (L1 := [some (.ref 123), some (.int s_), some (.int form), some (.int i), some (.int v8)]) (st1 := [.int (s 151 (((60 * s_) + i).toNatClampNeg))]) (s1 := s) rfl ?_
        exact UP.ret (r := some (.int (s 151 (((60 * s_) + i).toNatClampNeg)))) rfl ⟨by subst e8; first | (dsimp only [F_get]; done) | (dsimp only; done) | rfl, by subst e8; first | (dsimp only [F_get]; done) | (dsimp only; done) | rfl⟩
      · skip
        refine UP.ifF rfl cc ?_
        refine UP.stp 4 (i1 := 22) (L1 := [some (.ref 123), some (.int s_), some (.int form), some (.int i), some (.int v8)]) (st1 := [.int (-2147483648)]) (s1 := (uset s 123 46 v8)) rfl ?_
        exact UP.ret (r := some (.int (-2147483648))) rfl ⟨by subst e8; first | (dsimp only [F_get]; done) | (dsimp only; done) | rfl, by subst e8; first | (dsimp only [F_get]; done) | (dsimp only; done) | rfl⟩
    · skip
      refine UP.ifF rfl cc ?_
      refine UP.stp 1 (i1 := 9) (L1 := [some (.ref 123), some (.int s_), some (.int form), some (.int i), none]) (st1 := [.int (-2147483648)]) (s1 := s) rfl ?_
      exact UP.ret (r := some (.int (-2147483648))) rfl ⟨by first | (dsimp only [F_get]; done) | (dsimp only; done) | rfl, by first | (dsimp only [F_get]; done) | (dsimp only; done) | rfl⟩
end
section
def W_copy : List (Nat × Nat × Option Nat) := [(151, 152, none), (123, 123, some 46)]
def B_copy_71 (s_ : Int32) (i : Int32) (i28 : Nat) (a28 : SG) : SG := let v29 := a28 151 ((((60 * s_) + i) + (Int32.ofNat i28)).toNatClampNeg); (uset a28 152 i28 v29)
set_option maxRecDepth 20000 in
set_option maxHeartbeats 200000 in
theorem fr_B_copy_71 (s_ : Int32) (i : Int32) (i28 : Nat) (a28 : SG)   : Fr W_copy a28 ((B_copy_71 s_ i) i28 a28) := by dsimp only [B_copy_71]; exact (let v29 : Int32 := a28 151 ((((60 * s_) + i) + (Int32.ofNat i28)).toNatClampNeg); (Fr.uset (s1 := a28) (a := 152) (j := i28) (x := v29) (by rfl) (Fr.rf _ _)))
def B_copy_92 (t : Int32) (j : Int32) (i30 : Nat) (a30 : SG) : SG := let v31 := a30 152 i30; (uset a30 151 ((((60 * t) + j) + (Int32.ofNat i30)).toNatClampNeg) v31)
set_option maxRecDepth 20000 in
set_option maxHeartbeats 200000 in
theorem fr_B_copy_92 (t : Int32) (j : Int32) (i30 : Nat) (a30 : SG)   : Fr W_copy a30 ((B_copy_92 t j) i30 a30) := by dsimp only [B_copy_92]; exact (let v31 : Int32 := a30 152 i30; (Fr.uset (s1 := a30) (a := 151) (j := (((60 * t) + j) + (Int32.ofNat i30)).toNatClampNeg) (x := v31) (by rfl) (Fr.rf _ _)))
def F_copy (s : SG) (s_ : Int32) (i : Int32) (t : Int32) (j : Int32) (n : Int32) : Int32 × SG := bif m_cmp .eq (F_isSheet s s_) 0 then (((-2), s)) else (bif m_cmp .ne (F_isSheet s t) 0 then (bif m_cmp .eq (s 148 s_.toNatClampNeg) 0 then (let z9 := F_meets s 1; z9) else (bif m_cmp .ne (s 148 t.toNatClampNeg) 0 then (bif m_cmp .eq (s 149 s_.toNatClampNeg) (s 149 t.toNatClampNeg) then (bif m_cmp .lt i 0 then (let z16 := F_meets s 2; z16) else (bif m_cmp .lt j 0 then (let z19 := F_meets s 2; z19) else (bif m_cmp .lt n 0 then (let z22 := F_meets s 2; z22) else (bif m_cmp .gt (lg_cmp (i.toInt64 + n.toInt64) ((s 150 s_.toNatClampNeg).toInt64)) 0 then (let z25 := F_meets s 2; z25) else (bif m_cmp .le (lg_cmp (j.toInt64 + n.toInt64) ((s 150 t.toNatClampNeg).toInt64)) 0 then (let z28 := itr (B_copy_71 s_ i) 0 ((n).toNatClampNeg) s; let z30 := itr (B_copy_92 t j) 0 ((n).toNatClampNeg) z28; (1, z30)) else (let z32 := F_meets s 2; z32)))))) else (let z33 := F_meets s 4; z33)) else (let z34 := F_meets s 1; z34))) else (((-2), s)))
set_option maxRecDepth 20000 in
set_option maxHeartbeats 200000 in
theorem fr_copy (s : SG) (s_ : Int32) (i : Int32) (t : Int32) (j : Int32) (n : Int32)  : Fr W_copy s (F_copy s s_ i t j n).2 := by dsimp only [F_copy]; exact (Fr.bifp (b := m_cmp .eq (F_isSheet s s_) 0) (x := ((-2), s)) (y := bif m_cmp .ne (F_isSheet s t) 0 then (bif m_cmp .eq (s 148 s_.toNatClampNeg) 0 then (let z9 := F_meets s 1; z9) else (bif m_cmp .ne (s 148 t.toNatClampNeg) 0 then (bif m_cmp .eq (s 149 s_.toNatClampNeg) (s 149 t.toNatClampNeg) then (bif m_cmp .lt i 0 then (let z16 := F_meets s 2; z16) else (bif m_cmp .lt j 0 then (let z19 := F_meets s 2; z19) else (bif m_cmp .lt n 0 then (let z22 := F_meets s 2; z22) else (bif m_cmp .gt (lg_cmp (i.toInt64 + n.toInt64) ((s 150 s_.toNatClampNeg).toInt64)) 0 then (let z25 := F_meets s 2; z25) else (bif m_cmp .le (lg_cmp (j.toInt64 + n.toInt64) ((s 150 t.toNatClampNeg).toInt64)) 0 then (let z28 := itr (B_copy_71 s_ i) 0 ((n).toNatClampNeg) s; let z30 := itr (B_copy_92 t j) 0 ((n).toNatClampNeg) z28; (1, z30)) else (let z32 := F_meets s 2; z32)))))) else (let z33 := F_meets s 4; z33)) else (let z34 := F_meets s 1; z34))) else (((-2), s))) (fun x : Int32 × SG => x.2) (by (try dsimp only); exact (Fr.rf _ _)) (by (try dsimp only); exact (Fr.bifp (b := m_cmp .ne (F_isSheet s t) 0) (x := bif m_cmp .eq (s 148 s_.toNatClampNeg) 0 then (let z9 := F_meets s 1; z9) else (bif m_cmp .ne (s 148 t.toNatClampNeg) 0 then (bif m_cmp .eq (s 149 s_.toNatClampNeg) (s 149 t.toNatClampNeg) then (bif m_cmp .lt i 0 then (let z16 := F_meets s 2; z16) else (bif m_cmp .lt j 0 then (let z19 := F_meets s 2; z19) else (bif m_cmp .lt n 0 then (let z22 := F_meets s 2; z22) else (bif m_cmp .gt (lg_cmp (i.toInt64 + n.toInt64) ((s 150 s_.toNatClampNeg).toInt64)) 0 then (let z25 := F_meets s 2; z25) else (bif m_cmp .le (lg_cmp (j.toInt64 + n.toInt64) ((s 150 t.toNatClampNeg).toInt64)) 0 then (let z28 := itr (B_copy_71 s_ i) 0 ((n).toNatClampNeg) s; let z30 := itr (B_copy_92 t j) 0 ((n).toNatClampNeg) z28; (1, z30)) else (let z32 := F_meets s 2; z32)))))) else (let z33 := F_meets s 4; z33)) else (let z34 := F_meets s 1; z34))) (y := ((-2), s)) (fun x : Int32 × SG => x.2) (by (try dsimp only); exact (Fr.bifp (b := m_cmp .eq (s 148 s_.toNatClampNeg) 0) (x := let z9 := F_meets s 1; z9) (y := bif m_cmp .ne (s 148 t.toNatClampNeg) 0 then (bif m_cmp .eq (s 149 s_.toNatClampNeg) (s 149 t.toNatClampNeg) then (bif m_cmp .lt i 0 then (let z16 := F_meets s 2; z16) else (bif m_cmp .lt j 0 then (let z19 := F_meets s 2; z19) else (bif m_cmp .lt n 0 then (let z22 := F_meets s 2; z22) else (bif m_cmp .gt (lg_cmp (i.toInt64 + n.toInt64) ((s 150 s_.toNatClampNeg).toInt64)) 0 then (let z25 := F_meets s 2; z25) else (bif m_cmp .le (lg_cmp (j.toInt64 + n.toInt64) ((s 150 t.toNatClampNeg).toInt64)) 0 then (let z28 := itr (B_copy_71 s_ i) 0 ((n).toNatClampNeg) s; let z30 := itr (B_copy_92 t j) 0 ((n).toNatClampNeg) z28; (1, z30)) else (let z32 := F_meets s 2; z32)))))) else (let z33 := F_meets s 4; z33)) else (let z34 := F_meets s 1; z34)) (fun x : Int32 × SG => x.2) (by (try dsimp only); exact (Fr.tr (s1 := s) (Fr.rf _ _) (Fr.wk (W2 := W_copy) (fr_meets s 1) (by rfl)))) (by (try dsimp only); exact (Fr.bifp (b := m_cmp .ne (s 148 t.toNatClampNeg) 0) (x := bif m_cmp .eq (s 149 s_.toNatClampNeg) (s 149 t.toNatClampNeg) then (bif m_cmp .lt i 0 then (let z16 := F_meets s 2; z16) else (bif m_cmp .lt j 0 then (let z19 := F_meets s 2; z19) else (bif m_cmp .lt n 0 then (let z22 := F_meets s 2; z22) else (bif m_cmp .gt (lg_cmp (i.toInt64 + n.toInt64) ((s 150 s_.toNatClampNeg).toInt64)) 0 then (let z25 := F_meets s 2; z25) else (bif m_cmp .le (lg_cmp (j.toInt64 + n.toInt64) ((s 150 t.toNatClampNeg).toInt64)) 0 then (let z28 := itr (B_copy_71 s_ i) 0 ((n).toNatClampNeg) s; let z30 := itr (B_copy_92 t j) 0 ((n).toNatClampNeg) z28; (1, z30)) else (let z32 := F_meets s 2; z32)))))) else (let z33 := F_meets s 4; z33)) (y := let z34 := F_meets s 1; z34) (fun x : Int32 × SG => x.2) (by (try dsimp only); exact (Fr.bifp (b := m_cmp .eq (s 149 s_.toNatClampNeg) (s 149 t.toNatClampNeg)) (x := bif m_cmp .lt i 0 then (let z16 := F_meets s 2; z16) else (bif m_cmp .lt j 0 then (let z19 := F_meets s 2; z19) else (bif m_cmp .lt n 0 then (let z22 := F_meets s 2; z22) else (bif m_cmp .gt (lg_cmp (i.toInt64 + n.toInt64) ((s 150 s_.toNatClampNeg).toInt64)) 0 then (let z25 := F_meets s 2; z25) else (bif m_cmp .le (lg_cmp (j.toInt64 + n.toInt64) ((s 150 t.toNatClampNeg).toInt64)) 0 then (let z28 := itr (B_copy_71 s_ i) 0 ((n).toNatClampNeg) s; let z30 := itr (B_copy_92 t j) 0 ((n).toNatClampNeg) z28; (1, z30)) else (let z32 := F_meets s 2; z32)))))) (y := let z33 := F_meets s 4; z33) (fun x : Int32 × SG => x.2) (by (try dsimp only); exact (Fr.bifp (b := m_cmp .lt i 0) (x := let z16 := F_meets s 2; z16) (y := bif m_cmp .lt j 0 then (let z19 := F_meets s 2; z19) else (bif m_cmp .lt n 0 then (let z22 := F_meets s 2; z22) else (bif m_cmp .gt (lg_cmp (i.toInt64 + n.toInt64) ((s 150 s_.toNatClampNeg).toInt64)) 0 then (let z25 := F_meets s 2; z25) else (bif m_cmp .le (lg_cmp (j.toInt64 + n.toInt64) ((s 150 t.toNatClampNeg).toInt64)) 0 then (let z28 := itr (B_copy_71 s_ i) 0 ((n).toNatClampNeg) s; let z30 := itr (B_copy_92 t j) 0 ((n).toNatClampNeg) z28; (1, z30)) else (let z32 := F_meets s 2; z32))))) (fun x : Int32 × SG => x.2) (by (try dsimp only); exact (Fr.tr (s1 := s) (Fr.rf _ _) (Fr.wk (W2 := W_copy) (fr_meets s 2) (by rfl)))) (by (try dsimp only); exact (Fr.bifp (b := m_cmp .lt j 0) (x := let z19 := F_meets s 2; z19) (y := bif m_cmp .lt n 0 then (let z22 := F_meets s 2; z22) else (bif m_cmp .gt (lg_cmp (i.toInt64 + n.toInt64) ((s 150 s_.toNatClampNeg).toInt64)) 0 then (let z25 := F_meets s 2; z25) else (bif m_cmp .le (lg_cmp (j.toInt64 + n.toInt64) ((s 150 t.toNatClampNeg).toInt64)) 0 then (let z28 := itr (B_copy_71 s_ i) 0 ((n).toNatClampNeg) s; let z30 := itr (B_copy_92 t j) 0 ((n).toNatClampNeg) z28; (1, z30)) else (let z32 := F_meets s 2; z32)))) (fun x : Int32 × SG => x.2) (by (try dsimp only); exact (Fr.tr (s1 := s) (Fr.rf _ _) (Fr.wk (W2 := W_copy) (fr_meets s 2) (by rfl)))) (by (try dsimp only); exact (Fr.bifp (b := m_cmp .lt n 0) (x := let z22 := F_meets s 2; z22) (y := bif m_cmp .gt (lg_cmp (i.toInt64 + n.toInt64) ((s 150 s_.toNatClampNeg).toInt64)) 0 then (let z25 := F_meets s 2; z25) else (bif m_cmp .le (lg_cmp (j.toInt64 + n.toInt64) ((s 150 t.toNatClampNeg).toInt64)) 0 then (let z28 := itr (B_copy_71 s_ i) 0 ((n).toNatClampNeg) s; let z30 := itr (B_copy_92 t j) 0 ((n).toNatClampNeg) z28; (1, z30)) else (let z32 := F_meets s 2; z32))) (fun x : Int32 × SG => x.2) (by (try dsimp only); exact (Fr.tr (s1 := s) (Fr.rf _ _) (Fr.wk (W2 := W_copy) (fr_meets s 2) (by rfl)))) (by (try dsimp only); exact (Fr.bifp (b := m_cmp .gt (lg_cmp (i.toInt64 + n.toInt64) ((s 150 s_.toNatClampNeg).toInt64)) 0) (x := let z25 := F_meets s 2; z25) (y := bif m_cmp .le (lg_cmp (j.toInt64 + n.toInt64) ((s 150 t.toNatClampNeg).toInt64)) 0 then (let z28 := itr (B_copy_71 s_ i) 0 ((n).toNatClampNeg) s; let z30 := itr (B_copy_92 t j) 0 ((n).toNatClampNeg) z28; (1, z30)) else (let z32 := F_meets s 2; z32)) (fun x : Int32 × SG => x.2) (by (try dsimp only); exact (Fr.tr (s1 := s) (Fr.rf _ _) (Fr.wk (W2 := W_copy) (fr_meets s 2) (by rfl)))) (by (try dsimp only); exact (Fr.bifp (b := m_cmp .le (lg_cmp (j.toInt64 + n.toInt64) ((s 150 t.toNatClampNeg).toInt64)) 0) (x := let z28 := itr (B_copy_71 s_ i) 0 ((n).toNatClampNeg) s; let z30 := itr (B_copy_92 t j) 0 ((n).toNatClampNeg) z28; (1, z30)) (y := let z32 := F_meets s 2; z32) (fun x : Int32 × SG => x.2) (by (try dsimp only); exact (let z28 : SG := itr (B_copy_71 s_ i) 0 ((n).toNatClampNeg) s; (Fr.itr (W := W_copy) (m := (fun x : SG => x)) (f := (B_copy_92 t j)) (fun ii aa => Fr.wk (W2 := W_copy) (fr_B_copy_92 t j ii aa ) (by rfl)) ((n).toNatClampNeg) 0 z28 (Fr.itr (W := W_copy) (m := (fun x : SG => x)) (f := (B_copy_71 s_ i)) (fun ii aa => Fr.wk (W2 := W_copy) (fr_B_copy_71 s_ i ii aa ) (by rfl)) ((n).toNatClampNeg) 0 s (Fr.rf _ _))))) (by (try dsimp only); exact (Fr.tr (s1 := s) (Fr.rf _ _) (Fr.wk (W2 := W_copy) (fr_meets s 2) (by rfl)))))))))))))) (by (try dsimp only); exact (Fr.tr (s1 := s) (Fr.rf _ _) (Fr.wk (W2 := W_copy) (fr_meets s 4) (by rfl)))))) (by (try dsimp only); exact (Fr.tr (s1 := s) (Fr.rf _ _) (Fr.wk (W2 := W_copy) (fr_meets s 1) (by rfl)))))))) (by (try dsimp only); exact (Fr.rf _ _)))))
set_option maxRecDepth 20000 in
set_option maxHeartbeats 200000 in
theorem ux_copy (s : SG) (s_ : Int32) (i : Int32) (t : Int32) (j : Int32) (n : Int32)  : UP m_X7_copy 0 (m_ent 7 [.ref 123, .int s_, .int i, .int t, .int j, .int n]) [] s (Qb (F_copy s s_ i t j n)) := by
  refine UP.stp 1 (i1 := 1) (L1 := [some (.ref 123), some (.int s_), some (.int i), some (.int t), some (.int j), some (.int n), none]) (st1 := [.int s_]) (s1 := s) rfl ?_
  refine UP.cI (M1 := m_X7_isSheet) (as := [.int s_]) (rest := []) (T := F_isSheet s s_) rfl rfl (ux_isSheet s s_) ?_
  refine UP.spl (m_cmp .eq (F_isSheet s s_) 0) (((-2), s)) (bif m_cmp .ne (F_isSheet s t) 0 then (bif m_cmp .eq (s 148 s_.toNatClampNeg) 0 then (let z9 := F_meets s 1; z9) else (bif m_cmp .ne (s 148 t.toNatClampNeg) 0 then (bif m_cmp .eq (s 149 s_.toNatClampNeg) (s 149 t.toNatClampNeg) then (bif m_cmp .lt i 0 then (let z16 := F_meets s 2; z16) else (bif m_cmp .lt j 0 then (let z19 := F_meets s 2; z19) else (bif m_cmp .lt n 0 then (let z22 := F_meets s 2; z22) else (bif m_cmp .gt (lg_cmp (i.toInt64 + n.toInt64) ((s 150 s_.toNatClampNeg).toInt64)) 0 then (let z25 := F_meets s 2; z25) else (bif m_cmp .le (lg_cmp (j.toInt64 + n.toInt64) ((s 150 t.toNatClampNeg).toInt64)) 0 then (let z28 := itr (B_copy_71 s_ i) 0 ((n).toNatClampNeg) s; let z30 := itr (B_copy_92 t j) 0 ((n).toNatClampNeg) z28; (1, z30)) else (let z32 := F_meets s 2; z32)))))) else (let z33 := F_meets s 4; z33)) else (let z34 := F_meets s 1; z34))) else (((-2), s))) (by first | (dsimp only [F_copy]; done) | (dsimp only; done) | rfl) (fun cc => ?_) (fun cc => ?_)
  · skip
    refine UP.ifT rfl cc ?_
    refine UP.stp 1 (i1 := 7) (L1 := [some (.ref 123), some (.int s_), some (.int i), some (.int t), some (.int j), some (.int n), none]) (st1 := [.int (-2)]) (s1 := s) rfl ?_
    exact UP.ret (r := some (.int (-2))) rfl ⟨by first | (dsimp only [F_copy]; done) | (dsimp only; done) | rfl, by first | (dsimp only [F_copy]; done) | (dsimp only; done) | rfl⟩
  · skip
    refine UP.ifF rfl cc ?_
    refine UP.stp 1 (i1 := 4) (L1 := [some (.ref 123), some (.int s_), some (.int i), some (.int t), some (.int j), some (.int n), none]) (st1 := [.int t]) (s1 := s) rfl ?_
    refine UP.cI (M1 := m_X7_isSheet) (as := [.int t]) (rest := []) (T := F_isSheet s t) rfl rfl (ux_isSheet s t) ?_
    refine UP.spl (m_cmp .ne (F_isSheet s t) 0) (bif m_cmp .eq (s 148 s_.toNatClampNeg) 0 then (let z9 := F_meets s 1; z9) else (bif m_cmp .ne (s 148 t.toNatClampNeg) 0 then (bif m_cmp .eq (s 149 s_.toNatClampNeg) (s 149 t.toNatClampNeg) then (bif m_cmp .lt i 0 then (let z16 := F_meets s 2; z16) else (bif m_cmp .lt j 0 then (let z19 := F_meets s 2; z19) else (bif m_cmp .lt n 0 then (let z22 := F_meets s 2; z22) else (bif m_cmp .gt (lg_cmp (i.toInt64 + n.toInt64) ((s 150 s_.toNatClampNeg).toInt64)) 0 then (let z25 := F_meets s 2; z25) else (bif m_cmp .le (lg_cmp (j.toInt64 + n.toInt64) ((s 150 t.toNatClampNeg).toInt64)) 0 then (let z28 := itr (B_copy_71 s_ i) 0 ((n).toNatClampNeg) s; let z30 := itr (B_copy_92 t j) 0 ((n).toNatClampNeg) z28; (1, z30)) else (let z32 := F_meets s 2; z32)))))) else (let z33 := F_meets s 4; z33)) else (let z34 := F_meets s 1; z34))) (((-2), s)) (by first | (dsimp only [F_copy]; done) | (dsimp only; done) | rfl) (fun cc => ?_) (fun cc => ?_)
    · skip
      refine UP.ifT rfl cc ?_
      refine UP.stp 4 (i1 := 12) (L1 := [some (.ref 123), some (.int s_), some (.int i), some (.int t), some (.int j), some (.int n), none]) (st1 := [.int (s 148 s_.toNatClampNeg)]) (s1 := s) rfl ?_
      refine UP.spl (m_cmp .eq (s 148 s_.toNatClampNeg) 0) (let z9 := F_meets s 1; z9) (bif m_cmp .ne (s 148 t.toNatClampNeg) 0 then (bif m_cmp .eq (s 149 s_.toNatClampNeg) (s 149 t.toNatClampNeg) then (bif m_cmp .lt i 0 then (let z16 := F_meets s 2; z16) else (bif m_cmp .lt j 0 then (let z19 := F_meets s 2; z19) else (bif m_cmp .lt n 0 then (let z22 := F_meets s 2; z22) else (bif m_cmp .gt (lg_cmp (i.toInt64 + n.toInt64) ((s 150 s_.toNatClampNeg).toInt64)) 0 then (let z25 := F_meets s 2; z25) else (bif m_cmp .le (lg_cmp (j.toInt64 + n.toInt64) ((s 150 t.toNatClampNeg).toInt64)) 0 then (let z28 := itr (B_copy_71 s_ i) 0 ((n).toNatClampNeg) s; let z30 := itr (B_copy_92 t j) 0 ((n).toNatClampNeg) z28; (1, z30)) else (let z32 := F_meets s 2; z32)))))) else (let z33 := F_meets s 4; z33)) else (let z34 := F_meets s 1; z34)) (by first | (dsimp only [F_copy]; done) | (dsimp only; done) | rfl) (fun cc => ?_) (fun cc => ?_)
      · skip
        refine UP.ifT rfl cc ?_
        refine UP.stp 2 (i1 := 20) (L1 := [some (.ref 123), some (.int s_), some (.int i), some (.int t), some (.int j), some (.int n), none]) (st1 := [.int 1, .ref 123]) (s1 := s) rfl ?_
        refine UP.cB (M1 := m_X7_meets) (as := [.ref 123, .int 1]) (rest := []) (T := F_meets s 1) rfl rfl (ux_meets s 1) (fun z9 e9 => ?_)
        exact UP.ret (r := some (.int z9.1)) rfl ⟨by subst e9; first | (dsimp only [F_copy]; done) | (dsimp only; done) | rfl, by subst e9; first | (dsimp only [F_copy]; done) | (dsimp only; done) | rfl⟩
      · skip
        refine UP.ifF rfl cc ?_
        refine UP.stp 4 (i1 := 17) (L1 := [some (.ref 123), some (.int s_), some (.int i), some (.int t), some (.int j), some (.int n), none]) (st1 := [.int (s 148 t.toNatClampNeg)]) (s1 := s) rfl ?_
        refine UP.spl (m_cmp .ne (s 148 t.toNatClampNeg) 0) (bif m_cmp .eq (s 149 s_.toNatClampNeg) (s 149 t.toNatClampNeg) then (bif m_cmp .lt i 0 then (let z16 := F_meets s 2; z16) else (bif m_cmp .lt j 0 then (let z19 := F_meets s 2; z19) else (bif m_cmp .lt n 0 then (let z22 := F_meets s 2; z22) else (bif m_cmp .gt (lg_cmp (i.toInt64 + n.toInt64) ((s 150 s_.toNatClampNeg).toInt64)) 0 then (let z25 := F_meets s 2; z25) else (bif m_cmp .le (lg_cmp (j.toInt64 + n.toInt64) ((s 150 t.toNatClampNeg).toInt64)) 0 then (let z28 := itr (B_copy_71 s_ i) 0 ((n).toNatClampNeg) s; let z30 := itr (B_copy_92 t j) 0 ((n).toNatClampNeg) z28; (1, z30)) else (let z32 := F_meets s 2; z32)))))) else (let z33 := F_meets s 4; z33)) (let z34 := F_meets s 1; z34) (by first | (dsimp only [F_copy]; done) | (dsimp only; done) | rfl) (fun cc => ?_) (fun cc => ?_)
        · skip
          refine UP.ifT rfl cc ?_
          refine UP.stp 8 (i1 := 30) (L1 := [some (.ref 123), some (.int s_), some (.int i), some (.int t), some (.int j), some (.int n), none]) (st1 := [.int (s 149 t.toNatClampNeg), .int (s 149 s_.toNatClampNeg)]) (s1 := s) rfl ?_
          refine UP.spl (m_cmp .eq (s 149 s_.toNatClampNeg) (s 149 t.toNatClampNeg)) (bif m_cmp .lt i 0 then (let z16 := F_meets s 2; z16) else (bif m_cmp .lt j 0 then (let z19 := F_meets s 2; z19) else (bif m_cmp .lt n 0 then (let z22 := F_meets s 2; z22) else (bif m_cmp .gt (lg_cmp (i.toInt64 + n.toInt64) ((s 150 s_.toNatClampNeg).toInt64)) 0 then (let z25 := F_meets s 2; z25) else (bif m_cmp .le (lg_cmp (j.toInt64 + n.toInt64) ((s 150 t.toNatClampNeg).toInt64)) 0 then (let z28 := itr (B_copy_71 s_ i) 0 ((n).toNatClampNeg) s; let z30 := itr (B_copy_92 t j) 0 ((n).toNatClampNeg) z28; (1, z30)) else (let z32 := F_meets s 2; z32)))))) (let z33 := F_meets s 4; z33) (by first | (dsimp only [F_copy]; done) | (dsimp only; done) | rfl) (fun cc => ?_) (fun cc => ?_)
          · skip
            refine UP.icT rfl cc ?_
            refine UP.stp 1 (i1 := 36) (L1 := [some (.ref 123), some (.int s_), some (.int i), some (.int t), some (.int j), some (.int n), none]) (st1 := [.int i]) (s1 := s) rfl ?_
            refine UP.spl (m_cmp .lt i 0) (let z16 := F_meets s 2; z16) (bif m_cmp .lt j 0 then (let z19 := F_meets s 2; z19) else (bif m_cmp .lt n 0 then (let z22 := F_meets s 2; z22) else (bif m_cmp .gt (lg_cmp (i.toInt64 + n.toInt64) ((s 150 s_.toNatClampNeg).toInt64)) 0 then (let z25 := F_meets s 2; z25) else (bif m_cmp .le (lg_cmp (j.toInt64 + n.toInt64) ((s 150 t.toNatClampNeg).toInt64)) 0 then (let z28 := itr (B_copy_71 s_ i) 0 ((n).toNatClampNeg) s; let z30 := itr (B_copy_92 t j) 0 ((n).toNatClampNeg) z28; (1, z30)) else (let z32 := F_meets s 2; z32))))) (by first | (dsimp only [F_copy]; done) | (dsimp only; done) | rfl) (fun cc => ?_) (fun cc => ?_)
            · skip
              refine UP.ifT rfl cc ?_
              refine UP.stp 2 (i1 := 67) (L1 := [some (.ref 123), some (.int s_), some (.int i), some (.int t), some (.int j), some (.int n), none]) (st1 := [.int 2, .ref 123]) (s1 := s) rfl ?_
              refine UP.cB (M1 := m_X7_meets) (as := [.ref 123, .int 2]) (rest := []) (T := F_meets s 2) rfl rfl (ux_meets s 2) (fun z16 e16 => ?_)
              exact UP.ret (r := some (.int z16.1)) rfl ⟨by subst e16; first | (dsimp only [F_copy]; done) | (dsimp only; done) | rfl, by subst e16; first | (dsimp only [F_copy]; done) | (dsimp only; done) | rfl⟩
            · skip
              refine UP.ifF rfl cc ?_
              refine UP.stp 1 (i1 := 38) (L1 := [some (.ref 123), some (.int s_), some (.int i), some (.int t), some (.int j), some (.int n), none]) (st1 := [.int j]) (s1 := s) rfl ?_
              refine UP.spl (m_cmp .lt j 0) (let z19 := F_meets s 2; z19) (bif m_cmp .lt n 0 then (let z22 := F_meets s 2; z22) else (bif m_cmp .gt (lg_cmp (i.toInt64 + n.toInt64) ((s 150 s_.toNatClampNeg).toInt64)) 0 then (let z25 := F_meets s 2; z25) else (bif m_cmp .le (lg_cmp (j.toInt64 + n.toInt64) ((s 150 t.toNatClampNeg).toInt64)) 0 then (let z28 := itr (B_copy_71 s_ i) 0 ((n).toNatClampNeg) s; let z30 := itr (B_copy_92 t j) 0 ((n).toNatClampNeg) z28; (1, z30)) else (let z32 := F_meets s 2; z32)))) (by first | (dsimp only [F_copy]; done) | (dsimp only; done) | rfl) (fun cc => ?_) (fun cc => ?_)
              · skip
                refine UP.ifT rfl cc ?_
                refine UP.stp 2 (i1 := 67) (L1 := [some (.ref 123), some (.int s_), some (.int i), some (.int t), some (.int j), some (.int n), none]) (st1 := [.int 2, .ref 123]) (s1 := s) rfl ?_
                refine UP.cB (M1 := m_X7_meets) (as := [.ref 123, .int 2]) (rest := []) (T := F_meets s 2) rfl rfl (ux_meets s 2) (fun z19 e19 => ?_)
                exact UP.ret (r := some (.int z19.1)) rfl ⟨by subst e19; first | (dsimp only [F_copy]; done) | (dsimp only; done) | rfl, by subst e19; first | (dsimp only [F_copy]; done) | (dsimp only; done) | rfl⟩
              · skip
                refine UP.ifF rfl cc ?_
                refine UP.stp 1 (i1 := 40) (L1 := [some (.ref 123), some (.int s_), some (.int i), some (.int t), some (.int j), some (.int n), none]) (st1 := [.int n]) (s1 := s) rfl ?_
                refine UP.spl (m_cmp .lt n 0) (let z22 := F_meets s 2; z22) (bif m_cmp .gt (lg_cmp (i.toInt64 + n.toInt64) ((s 150 s_.toNatClampNeg).toInt64)) 0 then (let z25 := F_meets s 2; z25) else (bif m_cmp .le (lg_cmp (j.toInt64 + n.toInt64) ((s 150 t.toNatClampNeg).toInt64)) 0 then (let z28 := itr (B_copy_71 s_ i) 0 ((n).toNatClampNeg) s; let z30 := itr (B_copy_92 t j) 0 ((n).toNatClampNeg) z28; (1, z30)) else (let z32 := F_meets s 2; z32))) (by first | (dsimp only [F_copy]; done) | (dsimp only; done) | rfl) (fun cc => ?_) (fun cc => ?_)
                · skip
                  refine UP.ifT rfl cc ?_
                  refine UP.stp 2 (i1 := 67) (L1 := [some (.ref 123), some (.int s_), some (.int i), some (.int t), some (.int j), some (.int n), none]) (st1 := [.int 2, .ref 123]) (s1 := s) rfl ?_
                  refine UP.cB (M1 := m_X7_meets) (as := [.ref 123, .int 2]) (rest := []) (T := F_meets s 2) rfl rfl (ux_meets s 2) (fun z22 e22 => ?_)
                  exact UP.ret (r := some (.int z22.1)) rfl ⟨by subst e22; first | (dsimp only [F_copy]; done) | (dsimp only; done) | rfl, by subst e22; first | (dsimp only [F_copy]; done) | (dsimp only; done) | rfl⟩
                · skip
                  refine UP.ifF rfl cc ?_
                  refine UP.stp 11 (i1 := 52) (L1 := [some (.ref 123), some (.int s_), some (.int i), some (.int t), some (.int j), some (.int n), none]) (st1 := [.int (lg_cmp (i.toInt64 + n.toInt64) ((s 150 s_.toNatClampNeg).toInt64))]) (s1 := s) rfl ?_
                  refine UP.spl (m_cmp .gt (lg_cmp (i.toInt64 + n.toInt64) ((s 150 s_.toNatClampNeg).toInt64)) 0) (let z25 := F_meets s 2; z25) (bif m_cmp .le (lg_cmp (j.toInt64 + n.toInt64) ((s 150 t.toNatClampNeg).toInt64)) 0 then (let z28 := itr (B_copy_71 s_ i) 0 ((n).toNatClampNeg) s; let z30 := itr (B_copy_92 t j) 0 ((n).toNatClampNeg) z28; (1, z30)) else (let z32 := F_meets s 2; z32)) (by first | (dsimp only [F_copy]; done) | (dsimp only; done) | rfl) (fun cc => ?_) (fun cc => ?_)
                  · skip
                    refine UP.ifT rfl cc ?_
                    refine UP.stp 2 (i1 := 67) (L1 := [some (.ref 123), some (.int s_), some (.int i), some (.int t), some (.int j), some (.int n), none]) (st1 := [.int 2, .ref 123]) (s1 := s) rfl ?_
                    refine UP.cB (M1 := m_X7_meets) (as := [.ref 123, .int 2]) (rest := []) (T := F_meets s 2) rfl rfl (ux_meets s 2) (fun z25 e25 => ?_)
                    exact UP.ret (r := some (.int z25.1)) rfl ⟨by subst e25; first | (dsimp only [F_copy]; done) | (dsimp only; done) | rfl, by subst e25; first | (dsimp only [F_copy]; done) | (dsimp only; done) | rfl⟩
                  · skip
                    refine UP.ifF rfl cc ?_
                    refine UP.stp 11 (i1 := 64) (L1 := [some (.ref 123), some (.int s_), some (.int i), some (.int t), some (.int j), some (.int n), none]) (st1 := [.int (lg_cmp (j.toInt64 + n.toInt64) ((s 150 t.toNatClampNeg).toInt64))]) (s1 := s) rfl ?_
                    refine UP.spl (m_cmp .le (lg_cmp (j.toInt64 + n.toInt64) ((s 150 t.toNatClampNeg).toInt64)) 0) (let z28 := itr (B_copy_71 s_ i) 0 ((n).toNatClampNeg) s; let z30 := itr (B_copy_92 t j) 0 ((n).toNatClampNeg) z28; (1, z30)) (let z32 := F_meets s 2; z32) (by first | (dsimp only [F_copy]; done) | (dsimp only; done) | rfl) (fun cc => ?_) (fun cc => ?_)
                    · skip
                      refine UP.ifT rfl cc ?_
                      refine UP.stp 2 (i1 := 71) (L1 := [some (.ref 123), some (.int s_), some (.int i), some (.int t), some (.int j), some (.int n), some (.int 0)]) (st1 := []) (s1 := s) rfl ?_
                      refine lp (fun (i28 : Nat) (a28 : SG) => UP m_X7_copy 71 [some (.ref 123), some (.int s_), some (.int i), some (.int t), some (.int j), some (.int n), some (.int (Int32.ofNat i28))] [] a28 (Qb (let z28 := itr (B_copy_71 s_ i) 0 ((n).toNatClampNeg) s; let z30 := itr (B_copy_92 t j) 0 ((n).toNatClampNeg) z28; (1, z30)))) (fun (_ : Nat) (a28 : SG) => Fr W_copy s a28) (B_copy_71 s_ i) ((n).toNatClampNeg) (fun i28 a28 hi28 g28 => g28.tr (fr_B_copy_71 s_ i i28 a28 )) (fun i28 a28 hi28 g28 kk => ?_) ((n).toNatClampNeg) (0) s (by  omega) (Fr.rf _ _) (fun z28 e28 g28 => ?_)
                      · skip
                        have hbi28 := cl_lt (n)
                        refine UP.stp 2 (i1 := 73) (L1 := [some (.ref 123), some (.int s_), some (.int i), some (.int t), some (.int j), some (.int n), some (.int (Int32.ofNat i28))]) (st1 := [.int n, .int (Int32.ofNat i28)]) (s1 := a28) rfl ?_
                        refine UP.icF rfl (ge_F hi28) ?_
                        refine UP.stp 13 (i1 := 87) (L1 := [some (.ref 123), some (.int s_), some (.int i), some (.int t), some (.int j), some (.int n), some (.int (Int32.ofNat i28))]) (st1 := [.int (a28 151 ((((60 * s_) + i) + (Int32.ofNat i28)).toNatClampNeg)), .int (Int32.ofNat i28), .ref 152]) (s1 := a28) rfl ?_
                        refine nm (G := fun v29 => UP m_X7_copy 87 [some (.ref 123), some (.int s_), some (.int i), some (.int t), some (.int j), some (.int n), some (.int (Int32.ofNat i28))] [.int v29, .int (Int32.ofNat i28), .ref 152] a28 (Qb (let z28 := itr (B_copy_71 s_ i) 0 ((n).toNatClampNeg) s; let z30 := itr (B_copy_92 t j) 0 ((n).toNatClampNeg) z28; (1, z30)))) (a28 151 ((((60 * s_) + i) + (Int32.ofNat i28)).toNatClampNeg)) (fun v29 e29 => ?_)
                        refine UP.ast (e := i28) rfl rfl (by omega) ?_
                        show UP m_X7_copy 88 [some (.ref 123), some (.int s_), some (.int i), some (.int t), some (.int j), some (.int n), some (.int (Int32.ofNat i28))] [] (uset a28 152 i28 v29) (Qb (let z28 := itr (B_copy_71 s_ i) 0 ((n).toNatClampNeg) s; let z30 := itr (B_copy_92 t j) 0 ((n).toNatClampNeg) z28; (1, z30)))
                        refine UP.stp 2 (i1 := 71) (L1 := [some (.ref 123), some (.int s_), some (.int i), some (.int t), some (.int j), some (.int n), some (.int ((Int32.ofNat i28) + 1))]) (st1 := []) (s1 := (uset a28 152 i28 v29)) rfl ?_
                        subst e29
                        rw [ofn_s]
                        try dsimp only [B_copy_71] at kk
                        exact kk
                      refine UP.stp 2 (i1 := 73) (L1 := [some (.ref 123), some (.int s_), some (.int i), some (.int t), some (.int j), some (.int n), some (.int (Int32.ofNat ((n).toNatClampNeg)))]) (st1 := [.int n, .int (Int32.ofNat ((n).toNatClampNeg))]) (s1 := z28) rfl ?_
                      refine UP.icT rfl (ge_T _) ?_
                      refine UP.stp 2 (i1 := 92) (L1 := [some (.ref 123), some (.int s_), some (.int i), some (.int t), some (.int j), some (.int n), some (.int 0)]) (st1 := []) (s1 := z28) rfl ?_
                      refine lp (fun (i30 : Nat) (a30 : SG) => ∀ (u30_1 : Option Value) (u30_2 : Option Value), UP m_X7_copy 92 [some (.ref 123), u30_1, u30_2, some (.int t), some (.int j), some (.int n), some (.int (Int32.ofNat i30))] [] a30 (Qb (let z28 := itr (B_copy_71 s_ i) 0 ((n).toNatClampNeg) s; let z30 := itr (B_copy_92 t j) 0 ((n).toNatClampNeg) z28; (1, z30)))) (fun (_ : Nat) (a30 : SG) => Fr W_copy z28 a30) (B_copy_92 t j) ((n).toNatClampNeg) (fun i30 a30 hi30 g30 => g30.tr (fr_B_copy_92 t j i30 a30 )) (fun i30 a30 hi30 g30 kk => ?_) ((n).toNatClampNeg) (0) z28 (by  omega) (Fr.rf _ _) (fun z30 e30 g30 => ?_) (some (.int s_)) (some (.int i))
                      · skip
                        intro u30_1 u30_2
                        have hbi30 := cl_lt (n)
                        refine UP.stp 2 (i1 := 94) (L1 := [some (.ref 123), u30_1, u30_2, some (.int t), some (.int j), some (.int n), some (.int (Int32.ofNat i30))]) (st1 := [.int n, .int (Int32.ofNat i30)]) (s1 := a30) rfl ?_
                        refine UP.icF rfl (ge_F hi30) ?_
                        refine UP.stp 12 (i1 := 107) (L1 := [some (.ref 123), u30_1, u30_2, some (.int t), some (.int j), some (.int n), some (.int (Int32.ofNat i30))]) (st1 := [.int (Int32.ofNat i30), .ref 152, .int (((60 * t) + j) + (Int32.ofNat i30)), .ref 151]) (s1 := a30) rfl ?_
                        refine UP.ald (e := i30) rfl rfl (by omega) ?_
                        show UP m_X7_copy 108 [some (.ref 123), u30_1, u30_2, some (.int t), some (.int j), some (.int n), some (.int (Int32.ofNat i30))] [.int (a30 152 i30), .int (((60 * t) + j) + (Int32.ofNat i30)), .ref 151] a30 (Qb (let z28 := itr (B_copy_71 s_ i) 0 ((n).toNatClampNeg) s; let z30 := itr (B_copy_92 t j) 0 ((n).toNatClampNeg) z28; (1, z30)))
                        refine nm (G := fun v31 => UP m_X7_copy 108 [some (.ref 123), u30_1, u30_2, some (.int t), some (.int j), some (.int n), some (.int (Int32.ofNat i30))] [.int v31, .int (((60 * t) + j) + (Int32.ofNat i30)), .ref 151] a30 (Qb (let z28 := itr (B_copy_71 s_ i) 0 ((n).toNatClampNeg) s; let z30 := itr (B_copy_92 t j) 0 ((n).toNatClampNeg) z28; (1, z30)))) (a30 152 i30) (fun v31 e31 => ?_)
                        refine UP.stp 3 (i1 := 92) (L1 := [some (.ref 123), u30_1, u30_2, some (.int t), some (.int j), some (.int n), some (.int ((Int32.ofNat i30) + 1))]) (st1 := []) (s1 := (uset a30 151 ((((60 * t) + j) + (Int32.ofNat i30)).toNatClampNeg) v31)) rfl ?_
                        subst e31
                        rw [ofn_s]
                        try dsimp only [B_copy_92] at kk
                        exact kk _ _
                      intro u30_1 u30_2
                      refine UP.stp 2 (i1 := 94) (L1 := [some (.ref 123), u30_1, u30_2, some (.int t), some (.int j), some (.int n), some (.int (Int32.ofNat ((n).toNatClampNeg)))]) (st1 := [.int n, .int (Int32.ofNat ((n).toNatClampNeg))]) (s1 := z30) rfl ?_
                      refine UP.icT rfl (ge_T _) ?_
                      refine UP.stp 1 (i1 := 112) (L1 := [some (.ref 123), u30_1, u30_2, some (.int t), some (.int j), some (.int n), some (.int (Int32.ofNat ((n).toNatClampNeg)))]) (st1 := [.int 1]) (s1 := z30) rfl ?_
                      exact UP.ret (r := some (.int 1)) rfl ⟨by subst e30 e28; first | (dsimp only [F_copy]; done) | (dsimp only; done) | rfl, by subst e30 e28; first | (dsimp only [F_copy]; done) | (dsimp only; done) | rfl⟩
                    · skip
                      refine UP.ifF rfl cc ?_
                      refine UP.stp 2 (i1 := 67) (L1 := [some (.ref 123), some (.int s_), some (.int i), some (.int t), some (.int j), some (.int n), none]) (st1 := [.int 2, .ref 123]) (s1 := s) rfl ?_
                      refine UP.cB (M1 := m_X7_meets) (as := [.ref 123, .int 2]) (rest := []) (T := F_meets s 2) rfl rfl (ux_meets s 2) (fun z32 e32 => ?_)
                      exact UP.ret (r := some (.int z32.1)) rfl ⟨by subst e32; first | (dsimp only [F_copy]; done) | (dsimp only; done) | rfl, by subst e32; first | (dsimp only [F_copy]; done) | (dsimp only; done) | rfl⟩
          · skip
            refine UP.icF rfl cc ?_
            refine UP.stp 2 (i1 := 33) (L1 := [some (.ref 123), some (.int s_), some (.int i), some (.int t), some (.int j), some (.int n), none]) (st1 := [.int 4, .ref 123]) (s1 := s) rfl ?_
            refine UP.cB (M1 := m_X7_meets) (as := [.ref 123, .int 4]) (rest := []) (T := F_meets s 4) rfl rfl (ux_meets s 4) (fun z33 e33 => ?_)
            exact UP.ret (r := some (.int z33.1)) rfl ⟨by subst e33; first | (dsimp only [F_copy]; done) | (dsimp only; done) | rfl, by subst e33; first | (dsimp only [F_copy]; done) | (dsimp only; done) | rfl⟩
        · skip
          refine UP.ifF rfl cc ?_
          refine UP.stp 2 (i1 := 20) (L1 := [some (.ref 123), some (.int s_), some (.int i), some (.int t), some (.int j), some (.int n), none]) (st1 := [.int 1, .ref 123]) (s1 := s) rfl ?_
          refine UP.cB (M1 := m_X7_meets) (as := [.ref 123, .int 1]) (rest := []) (T := F_meets s 1) rfl rfl (ux_meets s 1) (fun z34 e34 => ?_)
          exact UP.ret (r := some (.int z34.1)) rfl ⟨by subst e34; first | (dsimp only [F_copy]; done) | (dsimp only; done) | rfl, by subst e34; first | (dsimp only [F_copy]; done) | (dsimp only; done) | rfl⟩
    · skip
      refine UP.ifF rfl cc ?_
      refine UP.stp 1 (i1 := 7) (L1 := [some (.ref 123), some (.int s_), some (.int i), some (.int t), some (.int j), some (.int n), none]) (st1 := [.int (-2)]) (s1 := s) rfl ?_
      exact UP.ret (r := some (.int (-2))) rfl ⟨by first | (dsimp only [F_copy]; done) | (dsimp only; done) | rfl, by first | (dsimp only [F_copy]; done) | (dsimp only; done) | rfl⟩
end
section
def W_type : List (Nat × Nat × Option Nat) := [(124, 125, none)]
def F_type (s : SG) (text : Int32) (b : Int32) : Int32 × SG := bif m_cmp .eq (F_isText s text) 0 then (((-2), s)) else (bif m_cmp .ne (F_in s b 0 255) 0 then (let v7 := bif m_cmp .ne text 0 then (24 : Int32) else (23 : Int32); bif m_cmp .ne (s 124 text.toNatClampNeg) v7 then (let v10 := (s 124 text.toNatClampNeg) + 1; ((uset (uset s 125 (((24 * text) + (s 124 text.toNatClampNeg)).toNatClampNeg) b) 124 text.toNatClampNeg v10) 124 text.toNatClampNeg, (uset (uset s 125 (((24 * text) + (s 124 text.toNatClampNeg)).toNatClampNeg) b) 124 text.toNatClampNeg v10))) else (((-4), s))) else (((-2), s)))
set_option maxRecDepth 20000 in
set_option maxHeartbeats 200000 in
theorem fr_type (s : SG) (text : Int32) (b : Int32)  : Fr W_type s (F_type s text b).2 := by dsimp only [F_type]; exact (Fr.bifp (b := m_cmp .eq (F_isText s text) 0) (x := ((-2), s)) (y := bif m_cmp .ne (F_in s b 0 255) 0 then (let v7 := bif m_cmp .ne text 0 then (24 : Int32) else (23 : Int32); bif m_cmp .ne (s 124 text.toNatClampNeg) v7 then (let v10 := (s 124 text.toNatClampNeg) + 1; ((uset (uset s 125 (((24 * text) + (s 124 text.toNatClampNeg)).toNatClampNeg) b) 124 text.toNatClampNeg v10) 124 text.toNatClampNeg, (uset (uset s 125 (((24 * text) + (s 124 text.toNatClampNeg)).toNatClampNeg) b) 124 text.toNatClampNeg v10))) else (((-4), s))) else (((-2), s))) (fun x : Int32 × SG => x.2) (by (try dsimp only); exact (Fr.rf _ _)) (by (try dsimp only); exact (Fr.bifp (b := m_cmp .ne (F_in s b 0 255) 0) (x := let v7 := bif m_cmp .ne text 0 then (24 : Int32) else (23 : Int32); bif m_cmp .ne (s 124 text.toNatClampNeg) v7 then (let v10 := (s 124 text.toNatClampNeg) + 1; ((uset (uset s 125 (((24 * text) + (s 124 text.toNatClampNeg)).toNatClampNeg) b) 124 text.toNatClampNeg v10) 124 text.toNatClampNeg, (uset (uset s 125 (((24 * text) + (s 124 text.toNatClampNeg)).toNatClampNeg) b) 124 text.toNatClampNeg v10))) else (((-4), s))) (y := ((-2), s)) (fun x : Int32 × SG => x.2) (by (try dsimp only); exact (let v7 : Int32 := bif m_cmp .ne text 0 then (24 : Int32) else (23 : Int32); (Fr.bifp (b := m_cmp .ne (s 124 text.toNatClampNeg) v7) (x := let v10 := (s 124 text.toNatClampNeg) + 1; ((uset (uset s 125 (((24 * text) + (s 124 text.toNatClampNeg)).toNatClampNeg) b) 124 text.toNatClampNeg v10) 124 text.toNatClampNeg, (uset (uset s 125 (((24 * text) + (s 124 text.toNatClampNeg)).toNatClampNeg) b) 124 text.toNatClampNeg v10))) (y := ((-4), s)) (fun x : Int32 × SG => x.2) (by (try dsimp only); exact (let v10 : Int32 := (s 124 text.toNatClampNeg) + 1; (Fr.uset (s1 := (uset s 125 (((24 * text) + (s 124 text.toNatClampNeg)).toNatClampNeg) b)) (a := 124) (j := text.toNatClampNeg) (x := v10) (by rfl) (Fr.uset (s1 := s) (a := 125) (j := ((24 * text) + (s 124 text.toNatClampNeg)).toNatClampNeg) (x := b) (by rfl) (Fr.rf _ _))))) (by (try dsimp only); exact (Fr.rf _ _))))) (by (try dsimp only); exact (Fr.rf _ _)))))
set_option maxRecDepth 20000 in
set_option maxHeartbeats 200000 in
theorem ux_type (s : SG) (text : Int32) (b : Int32)  : UP m_X7_type 0 (m_ent 3 [.ref 123, .int text, .int b]) [] s (Qb (F_type s text b)) := by
  refine UP.stp 1 (i1 := 1) (L1 := [some (.ref 123), some (.int text), some (.int b)]) (st1 := [.int text]) (s1 := s) rfl ?_
  refine UP.cI (M1 := m_X7_isText) (as := [.int text]) (rest := []) (T := F_isText s text) rfl rfl (ux_isText s text) ?_
  refine UP.spl (m_cmp .eq (F_isText s text) 0) (((-2), s)) (bif m_cmp .ne (F_in s b 0 255) 0 then (let v7 := bif m_cmp .ne text 0 then (24 : Int32) else (23 : Int32); bif m_cmp .ne (s 124 text.toNatClampNeg) v7 then (let v10 := (s 124 text.toNatClampNeg) + 1; ((uset (uset s 125 (((24 * text) + (s 124 text.toNatClampNeg)).toNatClampNeg) b) 124 text.toNatClampNeg v10) 124 text.toNatClampNeg, (uset (uset s 125 (((24 * text) + (s 124 text.toNatClampNeg)).toNatClampNeg) b) 124 text.toNatClampNeg v10))) else (((-4), s))) else (((-2), s))) (by first | (dsimp only [F_type]; done) | (dsimp only; done) | rfl) (fun cc => ?_) (fun cc => ?_)
  · skip
    refine UP.ifT rfl cc ?_
    refine UP.stp 1 (i1 := 9) (L1 := [some (.ref 123), some (.int text), some (.int b)]) (st1 := [.int (-2)]) (s1 := s) rfl ?_
    exact UP.ret (r := some (.int (-2))) rfl ⟨by first | (dsimp only [F_type]; done) | (dsimp only; done) | rfl, by first | (dsimp only [F_type]; done) | (dsimp only; done) | rfl⟩
  · skip
    refine UP.ifF rfl cc ?_
    refine UP.stp 3 (i1 := 6) (L1 := [some (.ref 123), some (.int text), some (.int b)]) (st1 := [.int 255, .int 0, .int b]) (s1 := s) rfl ?_
    refine UP.cI (M1 := m_X7_in) (as := [.int b, .int 0, .int 255]) (rest := []) (T := F_in s b 0 255) rfl rfl (ux_in s b 0 255) ?_
    refine UP.spl (m_cmp .ne (F_in s b 0 255) 0) (let v7 := bif m_cmp .ne text 0 then (24 : Int32) else (23 : Int32); bif m_cmp .ne (s 124 text.toNatClampNeg) v7 then (let v10 := (s 124 text.toNatClampNeg) + 1; ((uset (uset s 125 (((24 * text) + (s 124 text.toNatClampNeg)).toNatClampNeg) b) 124 text.toNatClampNeg v10) 124 text.toNatClampNeg, (uset (uset s 125 (((24 * text) + (s 124 text.toNatClampNeg)).toNatClampNeg) b) 124 text.toNatClampNeg v10))) else (((-4), s))) (((-2), s)) (by first | (dsimp only [F_type]; done) | (dsimp only; done) | rfl) (fun cc => ?_) (fun cc => ?_)
    · skip
      refine UP.ifT rfl cc ?_
      refine UP.stp 5 (i1 := 15) (L1 := [some (.ref 123), some (.int text), some (.int b)]) (st1 := [.int text, .int (s 124 text.toNatClampNeg)]) (s1 := s) rfl ?_
      refine mrg (m_cmp .ne text 0) (24 : Int32) (23 : Int32) (fun v7 : Int32 => UP m_X7_type 19 [some (.ref 123), some (.int text), some (.int b)] [.int v7, .int (s 124 text.toNatClampNeg)] s (Qb (let v7 := bif m_cmp .ne text 0 then (24 : Int32) else (23 : Int32); bif m_cmp .ne (s 124 text.toNatClampNeg) v7 then (let v10 := (s 124 text.toNatClampNeg) + 1; ((uset (uset s 125 (((24 * text) + (s 124 text.toNatClampNeg)).toNatClampNeg) b) 124 text.toNatClampNeg v10) 124 text.toNatClampNeg, (uset (uset s 125 (((24 * text) + (s 124 text.toNatClampNeg)).toNatClampNeg) b) 124 text.toNatClampNeg v10))) else (((-4), s))))) (fun cc kk => ?_) (fun cc kk => ?_) (fun v7 e7 => ?_)
      · skip
        refine UP.ifT rfl cc ?_
        refine UP.stp 1 (i1 := 19) (L1 := [some (.ref 123), some (.int text), some (.int b)]) (st1 := [.int 24, .int (s 124 text.toNatClampNeg)]) (s1 := s) rfl ?_
        exact kk
      · skip
        refine UP.ifF rfl cc ?_
        refine UP.stp 2 (i1 := 19) (L1 := [some (.ref 123), some (.int text), some (.int b)]) (st1 := [.int 23, .int (s 124 text.toNatClampNeg)]) (s1 := s) rfl ?_
        exact kk
      refine UP.spl (m_cmp .ne (s 124 text.toNatClampNeg) v7) (let v10 := (s 124 text.toNatClampNeg) + 1; ((uset (uset s 125 (((24 * text) + (s 124 text.toNatClampNeg)).toNatClampNeg) b) 124 text.toNatClampNeg v10) 124 text.toNatClampNeg, (uset (uset s 125 (((24 * text) + (s 124 text.toNatClampNeg)).toNatClampNeg) b) 124 text.toNatClampNeg v10))) (((-4), s)) (by subst e7; first | (dsimp only [F_type]; done) | (dsimp only; done) | rfl) (fun cc => ?_) (fun cc => ?_)
      · skip
        refine UP.icT rfl cc ?_
        refine UP.stp 19 (i1 := 41) (L1 := [some (.ref 123), some (.int text), some (.int b)]) (st1 := [.int ((s 124 text.toNatClampNeg) + 1), .int text, .ref 124]) (s1 := (uset s 125 (((24 * text) + (s 124 text.toNatClampNeg)).toNatClampNeg) b)) rfl ?_
        refine nm (G := fun v10 => UP m_X7_type 41 [some (.ref 123), some (.int text), some (.int b)] [.int v10, .int text, .ref 124] (uset s 125 (((24 * text) + (s 124 text.toNatClampNeg)).toNatClampNeg) b) (Qb (let v10 := (s 124 text.toNatClampNeg) + 1; ((uset (uset s 125 (((24 * text) + (s 124 text.toNatClampNeg)).toNatClampNeg) b) 124 text.toNatClampNeg v10) 124 text.toNatClampNeg, (uset (uset s 125 (((24 * text) + (s 124 text.toNatClampNeg)).toNatClampNeg) b) 124 text.toNatClampNeg v10))))) ((s 124 text.toNatClampNeg) + 1) (fun v10 e10 => ?_)
        refine UP.stp 5 (i1 := 46) (L1 := [some (.ref 123), some (.int text), some (.int b)]) (st1 := [.int ((uset (uset s 125 (((24 * text) + (s 124 text.toNatClampNeg)).toNatClampNeg) b) 124 text.toNatClampNeg v10) 124 text.toNatClampNeg)]) (s1 := (uset (uset s 125 (((24 * text) + (s 124 text.toNatClampNeg)).toNatClampNeg) b) 124 text.toNatClampNeg v10)) rfl ?_
        exact UP.ret (r := some (.int ((uset (uset s 125 (((24 * text) + (s 124 text.toNatClampNeg)).toNatClampNeg) b) 124 text.toNatClampNeg v10) 124 text.toNatClampNeg))) rfl ⟨by subst e10 e7; first | (dsimp only [F_type]; done) | (dsimp only; done) | rfl, by subst e10 e7; first | (dsimp only [F_type]; done) | (dsimp only; done) | rfl⟩
      · skip
        refine UP.icF rfl cc ?_
        refine UP.stp 1 (i1 := 21) (L1 := [some (.ref 123), some (.int text), some (.int b)]) (st1 := [.int (-4)]) (s1 := s) rfl ?_
        exact UP.ret (r := some (.int (-4))) rfl ⟨by subst e7; first | (dsimp only [F_type]; done) | (dsimp only; done) | rfl, by subst e7; first | (dsimp only [F_type]; done) | (dsimp only; done) | rfl⟩
    · skip
      refine UP.ifF rfl cc ?_
      refine UP.stp 1 (i1 := 9) (L1 := [some (.ref 123), some (.int text), some (.int b)]) (st1 := [.int (-2)]) (s1 := s) rfl ?_
      exact UP.ret (r := some (.int (-2))) rfl ⟨by first | (dsimp only [F_type]; done) | (dsimp only; done) | rfl, by first | (dsimp only [F_type]; done) | (dsimp only; done) | rfl⟩
def W_wipe : List (Nat × Nat × Option Nat) := [(124, 124, none)]
def F_wipe (s : SG) (text : Int32) : Int32 × SG := bif m_cmp .ne (F_isText s text) 0 then (let v4 := s 124 text.toNatClampNeg; (v4, (uset s 124 text.toNatClampNeg 0))) else (((-2), s))
set_option maxRecDepth 20000 in
set_option maxHeartbeats 200000 in
theorem fr_wipe (s : SG) (text : Int32)  : Fr W_wipe s (F_wipe s text).2 := by dsimp only [F_wipe]; exact (Fr.bifp (b := m_cmp .ne (F_isText s text) 0) (x := let v4 := s 124 text.toNatClampNeg; (v4, (uset s 124 text.toNatClampNeg 0))) (y := ((-2), s)) (fun x : Int32 × SG => x.2) (by (try dsimp only); exact (Fr.uset (s1 := s) (a := 124) (j := text.toNatClampNeg) (x := 0) (by rfl) (Fr.rf _ _))) (by (try dsimp only); exact (Fr.rf _ _)))
set_option maxRecDepth 20000 in
set_option maxHeartbeats 200000 in
theorem ux_wipe (s : SG) (text : Int32)  : UP m_X7_wipe 0 (m_ent 3 [.ref 123, .int text]) [] s (Qb (F_wipe s text)) := by
  refine UP.stp 1 (i1 := 1) (L1 := [some (.ref 123), some (.int text), none]) (st1 := [.int text]) (s1 := s) rfl ?_
  refine UP.cI (M1 := m_X7_isText) (as := [.int text]) (rest := []) (T := F_isText s text) rfl rfl (ux_isText s text) ?_
  refine UP.spl (m_cmp .ne (F_isText s text) 0) (let v4 := s 124 text.toNatClampNeg; (v4, (uset s 124 text.toNatClampNeg 0))) (((-2), s)) (by first | (dsimp only [F_wipe]; done) | (dsimp only; done) | rfl) (fun cc => ?_) (fun cc => ?_)
  · skip
    refine UP.ifT rfl cc ?_
    refine UP.stp 4 (i1 := 9) (L1 := [some (.ref 123), some (.int text), none]) (st1 := [.int (s 124 text.toNatClampNeg)]) (s1 := s) rfl ?_
    refine nm (G := fun v4 => UP m_X7_wipe 9 [some (.ref 123), some (.int text), none] [.int v4] s (Qb (let v4 := s 124 text.toNatClampNeg; (v4, (uset s 124 text.toNatClampNeg 0))))) (s 124 text.toNatClampNeg) (fun v4 e4 => ?_)
    refine UP.stp 7 (i1 := 16) (L1 := [some (.ref 123), some (.int text), some (.int v4)]) (st1 := [.int v4]) (s1 := (uset s 124 text.toNatClampNeg 0)) rfl ?_
    exact UP.ret (r := some (.int v4)) rfl ⟨by subst e4; first | (dsimp only [F_wipe]; done) | (dsimp only; done) | rfl, by subst e4; first | (dsimp only [F_wipe]; done) | (dsimp only; done) | rfl⟩
  · skip
    refine UP.ifF rfl cc ?_
    refine UP.stp 1 (i1 := 4) (L1 := [some (.ref 123), some (.int text), none]) (st1 := [.int (-2)]) (s1 := s) rfl ?_
    exact UP.ret (r := some (.int (-2))) rfl ⟨by first | (dsimp only [F_wipe]; done) | (dsimp only; done) | rfl, by first | (dsimp only [F_wipe]; done) | (dsimp only; done) | rfl⟩
end
section
def W_undo : List (Nat × Nat × Option Nat) := [(124, 124, none)]
def F_undo (s : SG) (text : Int32) : Int32 × SG := bif m_cmp .ne (F_isText s text) 0 then (bif m_cmp .ne (s 124 text.toNatClampNeg) 0 then (let v6 := (s 124 text.toNatClampNeg) - 1; ((uset s 124 text.toNatClampNeg v6) 124 text.toNatClampNeg, (uset s 124 text.toNatClampNeg v6))) else (((-3), s))) else (((-2), s))
set_option maxRecDepth 20000 in
set_option maxHeartbeats 200000 in
theorem fr_undo (s : SG) (text : Int32)  : Fr W_undo s (F_undo s text).2 := by dsimp only [F_undo]; exact (Fr.bifp (b := m_cmp .ne (F_isText s text) 0) (x := bif m_cmp .ne (s 124 text.toNatClampNeg) 0 then (let v6 := (s 124 text.toNatClampNeg) - 1; ((uset s 124 text.toNatClampNeg v6) 124 text.toNatClampNeg, (uset s 124 text.toNatClampNeg v6))) else (((-3), s))) (y := ((-2), s)) (fun x : Int32 × SG => x.2) (by (try dsimp only); exact (Fr.bifp (b := m_cmp .ne (s 124 text.toNatClampNeg) 0) (x := let v6 := (s 124 text.toNatClampNeg) - 1; ((uset s 124 text.toNatClampNeg v6) 124 text.toNatClampNeg, (uset s 124 text.toNatClampNeg v6))) (y := ((-3), s)) (fun x : Int32 × SG => x.2) (by (try dsimp only); exact (let v6 : Int32 := (s 124 text.toNatClampNeg) - 1; (Fr.uset (s1 := s) (a := 124) (j := text.toNatClampNeg) (x := v6) (by rfl) (Fr.rf _ _)))) (by (try dsimp only); exact (Fr.rf _ _)))) (by (try dsimp only); exact (Fr.rf _ _)))
set_option maxRecDepth 20000 in
set_option maxHeartbeats 200000 in
theorem ux_undo (s : SG) (text : Int32)  : UP m_X7_undo 0 (m_ent 2 [.ref 123, .int text]) [] s (Qb (F_undo s text)) := by
  refine UP.stp 1 (i1 := 1) (L1 := [some (.ref 123), some (.int text)]) (st1 := [.int text]) (s1 := s) rfl ?_
  refine UP.cI (M1 := m_X7_isText) (as := [.int text]) (rest := []) (T := F_isText s text) rfl rfl (ux_isText s text) ?_
  refine UP.spl (m_cmp .ne (F_isText s text) 0) (bif m_cmp .ne (s 124 text.toNatClampNeg) 0 then (let v6 := (s 124 text.toNatClampNeg) - 1; ((uset s 124 text.toNatClampNeg v6) 124 text.toNatClampNeg, (uset s 124 text.toNatClampNeg v6))) else (((-3), s))) (((-2), s)) (by first | (dsimp only [F_undo]; done) | (dsimp only; done) | rfl) (fun cc => ?_) (fun cc => ?_)
  · skip
    refine UP.ifT rfl cc ?_
    refine UP.stp 4 (i1 := 9) (L1 := [some (.ref 123), some (.int text)]) (st1 := [.int (s 124 text.toNatClampNeg)]) (s1 := s) rfl ?_
    refine UP.spl (m_cmp .ne (s 124 text.toNatClampNeg) 0) (let v6 := (s 124 text.toNatClampNeg) - 1; ((uset s 124 text.toNatClampNeg v6) 124 text.toNatClampNeg, (uset s 124 text.toNatClampNeg v6))) (((-3), s)) (by first | (dsimp only [F_undo]; done) | (dsimp only; done) | rfl) (fun cc => ?_) (fun cc => ?_)
    · skip
      refine UP.ifT rfl cc ?_
      refine UP.stp 7 (i1 := 19) (L1 := [some (.ref 123), some (.int text)]) (st1 := [.int ((s 124 text.toNatClampNeg) - 1), .int text, .ref 124]) (s1 := s) rfl ?_
      refine nm (G := fun v6 => UP m_X7_undo 19 [some (.ref 123), some (.int text)] [.int v6, .int text, .ref 124] s (Qb (let v6 := (s 124 text.toNatClampNeg) - 1; ((uset s 124 text.toNatClampNeg v6) 124 text.toNatClampNeg, (uset s 124 text.toNatClampNeg v6))))) ((s 124 text.toNatClampNeg) - 1) (fun v6 e6 => ?_)
      refine UP.stp 5 (i1 := 24) (L1 := [some (.ref 123), some (.int text)]) (st1 := [.int ((uset s 124 text.toNatClampNeg v6) 124 text.toNatClampNeg)]) (s1 := (uset s 124 text.toNatClampNeg v6)) rfl ?_
      exact UP.ret (r := some (.int ((uset s 124 text.toNatClampNeg v6) 124 text.toNatClampNeg))) rfl ⟨by subst e6; first | (dsimp only [F_undo]; done) | (dsimp only; done) | rfl, by subst e6; first | (dsimp only [F_undo]; done) | (dsimp only; done) | rfl⟩
    · skip
      refine UP.ifF rfl cc ?_
      refine UP.stp 1 (i1 := 11) (L1 := [some (.ref 123), some (.int text)]) (st1 := [.int (-3)]) (s1 := s) rfl ?_
      exact UP.ret (r := some (.int (-3))) rfl ⟨by first | (dsimp only [F_undo]; done) | (dsimp only; done) | rfl, by first | (dsimp only [F_undo]; done) | (dsimp only; done) | rfl⟩
  · skip
    refine UP.ifF rfl cc ?_
    refine UP.stp 1 (i1 := 4) (L1 := [some (.ref 123), some (.int text)]) (st1 := [.int (-2)]) (s1 := s) rfl ?_
    exact UP.ret (r := some (.int (-2))) rfl ⟨by first | (dsimp only [F_undo]; done) | (dsimp only; done) | rfl, by first | (dsimp only [F_undo]; done) | (dsimp only; done) | rfl⟩
def W_tellOf : List (Nat × Nat × Option Nat) := [(126, 129, none), (133, 144, none), (147, 147, none), (123, 123, some 2), (123, 123, some 5), (123, 123, some 7), (123, 123, some 17), (123, 123, some 19), (123, 123, some 20), (123, 123, some 21), (123, 123, some 22), (123, 123, some 23), (123, 123, some 24), (123, 123, some 25), (123, 123, some 26), (123, 123, some 27)]
def F_tellOf (s : SG) (what : Int32) : Int32 × SG := let z1 := F_reads s ; let v3 := bif m_cmp .ne what 0 then (bif m_cmp .ne what 1 then z1 123 7 else z1 123 5) else z1 123 2; (v3, z1)
set_option maxRecDepth 20000 in
set_option maxHeartbeats 200000 in
theorem fr_tellOf (s : SG) (what : Int32)  : Fr W_tellOf s (F_tellOf s what).2 := by dsimp only [F_tellOf]; exact (Fr.tr (s1 := s) (Fr.rf _ _) (Fr.wk (W2 := W_tellOf) (fr_reads s ) (by rfl)))
set_option maxRecDepth 20000 in
set_option maxHeartbeats 200000 in
theorem ux_tellOf (s : SG) (what : Int32)  : UP m_X7_tellOf 0 (m_ent 2 [.ref 123, .int what]) [] s (Qb (F_tellOf s what)) := by
  refine UP.stp 1 (i1 := 1) (L1 := [some (.ref 123), some (.int what)]) (st1 := [.ref 123]) (s1 := s) rfl ?_
  refine UP.cV (M1 := m_X7_reads) (as := [.ref 123]) (rest := []) (T := F_reads s ) rfl rfl (ux_reads s ) (fun z1 e1 => ?_)
  refine UP.stp 1 (i1 := 3) (L1 := [some (.ref 123), some (.int what)]) (st1 := [.int what]) (s1 := z1) rfl ?_
  refine mrg (m_cmp .ne what 0) (bif m_cmp .ne what 1 then z1 123 7 else z1 123 5) (z1 123 2) (fun v3 : Int32 => UP m_X7_tellOf 15 [some (.ref 123), some (.int what)] [.int v3] z1 (Qb (F_tellOf s what))) (fun cc kk => ?_) (fun cc kk => ?_) (fun v3 e3 => ?_)
  · skip
    refine UP.ifT rfl cc ?_
    refine UP.stp 2 (i1 := 9) (L1 := [some (.ref 123), some (.int what)]) (st1 := [.int 1, .int what]) (s1 := z1) rfl ?_
    refine mrg (m_cmp .ne what 1) (z1 123 7) (z1 123 5) (fun v2 : Int32 => UP m_X7_tellOf 15 [some (.ref 123), some (.int what)] [.int v2] z1 (Qb (F_tellOf s what))) (fun cc kk => ?_) (fun cc kk => ?_) (fun v2 e2 => ?_)
    · skip
      refine UP.icT rfl cc ?_
      refine UP.stp 2 (i1 := 15) (L1 := [some (.ref 123), some (.int what)]) (st1 := [.int (z1 123 7)]) (s1 := z1) rfl ?_
      exact kk
    · skip
      refine UP.icF rfl cc ?_
      refine UP.stp 3 (i1 := 15) (L1 := [some (.ref 123), some (.int what)]) (st1 := [.int (z1 123 5)]) (s1 := z1) rfl ?_
      exact kk
    subst e2
    exact kk
  · skip
    refine UP.ifF rfl cc ?_
    refine UP.stp 3 (i1 := 15) (L1 := [some (.ref 123), some (.int what)]) (st1 := [.int (z1 123 2)]) (s1 := z1) rfl ?_
    exact kk
  exact UP.ret (r := some (.int v3)) rfl ⟨by subst e3 e1; first | (dsimp only [F_tellOf]; done) | (dsimp only; done) | rfl, by subst e3 e1; first | (dsimp only [F_tellOf]; done) | (dsimp only; done) | rfl⟩
end
section
def W_count : List (Nat × Nat × Option Nat) := [(126, 129, none), (133, 144, none), (147, 147, none), (123, 123, some 2), (123, 123, some 5), (123, 123, some 7), (123, 123, some 17), (123, 123, some 19), (123, 123, some 20), (123, 123, some 21), (123, 123, some 22), (123, 123, some 23), (123, 123, some 24), (123, 123, some 25), (123, 123, some 26), (123, 123, some 27)]
def F_count (s : SG) (what : Int32) : Int32 × SG := bif m_cmp .eq what 0 then (let z2 := F_tellOf s what; z2) else (bif m_cmp .eq what 1 then (let z5 := F_tellOf s what; z5) else (bif m_cmp .eq what 2 then (let z8 := F_tellOf s what; z8) else (bif m_cmp .eq what 3 then ((((s 124 0) + (s 124 1)) + (s 124 2), s)) else (bif m_cmp .eq what 4 then ((s 123 11, s)) else (bif m_cmp .eq what 5 then ((s 123 9, s)) else (bif m_cmp .eq what 6 then ((s 123 10, s)) else (bif m_cmp .eq what 7 then ((s 123 37, s)) else (bif m_cmp .eq what 8 then ((s 123 46, s)) else (((-2), s))))))))))
set_option maxRecDepth 20000 in
set_option maxHeartbeats 200000 in
theorem fr_count (s : SG) (what : Int32)  : Fr W_count s (F_count s what).2 := by dsimp only [F_count]; exact (Fr.bifp (b := m_cmp .eq what 0) (x := let z2 := F_tellOf s what; z2) (y := bif m_cmp .eq what 1 then (let z5 := F_tellOf s what; z5) else (bif m_cmp .eq what 2 then (let z8 := F_tellOf s what; z8) else (bif m_cmp .eq what 3 then ((((s 124 0) + (s 124 1)) + (s 124 2), s)) else (bif m_cmp .eq what 4 then ((s 123 11, s)) else (bif m_cmp .eq what 5 then ((s 123 9, s)) else (bif m_cmp .eq what 6 then ((s 123 10, s)) else (bif m_cmp .eq what 7 then ((s 123 37, s)) else (bif m_cmp .eq what 8 then ((s 123 46, s)) else (((-2), s)))))))))) (fun x : Int32 × SG => x.2) (by (try dsimp only); exact (Fr.tr (s1 := s) (Fr.rf _ _) (Fr.wk (W2 := W_count) (fr_tellOf s what) (by rfl)))) (by (try dsimp only); exact (Fr.bifp (b := m_cmp .eq what 1) (x := let z5 := F_tellOf s what; z5) (y := bif m_cmp .eq what 2 then (let z8 := F_tellOf s what; z8) else (bif m_cmp .eq what 3 then ((((s 124 0) + (s 124 1)) + (s 124 2), s)) else (bif m_cmp .eq what 4 then ((s 123 11, s)) else (bif m_cmp .eq what 5 then ((s 123 9, s)) else (bif m_cmp .eq what 6 then ((s 123 10, s)) else (bif m_cmp .eq what 7 then ((s 123 37, s)) else (bif m_cmp .eq what 8 then ((s 123 46, s)) else (((-2), s))))))))) (fun x : Int32 × SG => x.2) (by (try dsimp only); exact (Fr.tr (s1 := s) (Fr.rf _ _) (Fr.wk (W2 := W_count) (fr_tellOf s what) (by rfl)))) (by (try dsimp only); exact (Fr.bifp (b := m_cmp .eq what 2) (x := let z8 := F_tellOf s what; z8) (y := bif m_cmp .eq what 3 then ((((s 124 0) + (s 124 1)) + (s 124 2), s)) else (bif m_cmp .eq what 4 then ((s 123 11, s)) else (bif m_cmp .eq what 5 then ((s 123 9, s)) else (bif m_cmp .eq what 6 then ((s 123 10, s)) else (bif m_cmp .eq what 7 then ((s 123 37, s)) else (bif m_cmp .eq what 8 then ((s 123 46, s)) else (((-2), s)))))))) (fun x : Int32 × SG => x.2) (by (try dsimp only); exact (Fr.tr (s1 := s) (Fr.rf _ _) (Fr.wk (W2 := W_count) (fr_tellOf s what) (by rfl)))) (by (try dsimp only); exact (Fr.bifp (b := m_cmp .eq what 3) (x := (((s 124 0) + (s 124 1)) + (s 124 2), s)) (y := bif m_cmp .eq what 4 then ((s 123 11, s)) else (bif m_cmp .eq what 5 then ((s 123 9, s)) else (bif m_cmp .eq what 6 then ((s 123 10, s)) else (bif m_cmp .eq what 7 then ((s 123 37, s)) else (bif m_cmp .eq what 8 then ((s 123 46, s)) else (((-2), s))))))) (fun x : Int32 × SG => x.2) (by (try dsimp only); exact (Fr.rf _ _)) (by (try dsimp only); exact (Fr.bifp (b := m_cmp .eq what 4) (x := (s 123 11, s)) (y := bif m_cmp .eq what 5 then ((s 123 9, s)) else (bif m_cmp .eq what 6 then ((s 123 10, s)) else (bif m_cmp .eq what 7 then ((s 123 37, s)) else (bif m_cmp .eq what 8 then ((s 123 46, s)) else (((-2), s)))))) (fun x : Int32 × SG => x.2) (by (try dsimp only); exact (Fr.rf _ _)) (by (try dsimp only); exact (Fr.bifp (b := m_cmp .eq what 5) (x := (s 123 9, s)) (y := bif m_cmp .eq what 6 then ((s 123 10, s)) else (bif m_cmp .eq what 7 then ((s 123 37, s)) else (bif m_cmp .eq what 8 then ((s 123 46, s)) else (((-2), s))))) (fun x : Int32 × SG => x.2) (by (try dsimp only); exact (Fr.rf _ _)) (by (try dsimp only); exact (Fr.bifp (b := m_cmp .eq what 6) (x := (s 123 10, s)) (y := bif m_cmp .eq what 7 then ((s 123 37, s)) else (bif m_cmp .eq what 8 then ((s 123 46, s)) else (((-2), s)))) (fun x : Int32 × SG => x.2) (by (try dsimp only); exact (Fr.rf _ _)) (by (try dsimp only); exact (Fr.bifp (b := m_cmp .eq what 7) (x := (s 123 37, s)) (y := bif m_cmp .eq what 8 then ((s 123 46, s)) else (((-2), s))) (fun x : Int32 × SG => x.2) (by (try dsimp only); exact (Fr.rf _ _)) (by (try dsimp only); exact (Fr.bifp (b := m_cmp .eq what 8) (x := (s 123 46, s)) (y := ((-2), s)) (fun x : Int32 × SG => x.2) (by (try dsimp only); exact (Fr.rf _ _)) (by (try dsimp only); exact (Fr.rf _ _)))))))))))))))))))
set_option maxRecDepth 20000 in
set_option maxHeartbeats 200000 in
theorem ux_count (s : SG) (what : Int32)  : UP m_X7_count 0 (m_ent 2 [.ref 123, .int what]) [] s (Qb (F_count s what)) := by
  refine UP.stp 1 (i1 := 1) (L1 := [some (.ref 123), some (.int what)]) (st1 := [.int what]) (s1 := s) rfl ?_
  refine UP.spl (m_cmp .eq what 0) (let z2 := F_tellOf s what; z2) (bif m_cmp .eq what 1 then (let z5 := F_tellOf s what; z5) else (bif m_cmp .eq what 2 then (let z8 := F_tellOf s what; z8) else (bif m_cmp .eq what 3 then ((((s 124 0) + (s 124 1)) + (s 124 2), s)) else (bif m_cmp .eq what 4 then ((s 123 11, s)) else (bif m_cmp .eq what 5 then ((s 123 9, s)) else (bif m_cmp .eq what 6 then ((s 123 10, s)) else (bif m_cmp .eq what 7 then ((s 123 37, s)) else (bif m_cmp .eq what 8 then ((s 123 46, s)) else (((-2), s)))))))))) (by first | (dsimp only [F_count]; done) | (dsimp only; done) | rfl) (fun cs0 => ?_) (fun cs0 => ?_)
  · skip
    refine UP.swT 0 rfl cs0 (by decide) (by decide) ?_
    refine UP.stp 2 (i1 := 4) (L1 := [some (.ref 123), some (.int what)]) (st1 := [.int what, .ref 123]) (s1 := s) rfl ?_
    refine UP.cB (M1 := m_X7_tellOf) (as := [.ref 123, .int what]) (rest := []) (T := F_tellOf s what) rfl rfl (ux_tellOf s what) (fun z2 e2 => ?_)
    exact UP.ret (r := some (.int z2.1)) rfl ⟨by subst e2; first | (dsimp only [F_count]; done) | (dsimp only; done) | rfl, by subst e2; first | (dsimp only [F_count]; done) | (dsimp only; done) | rfl⟩
  · skip
    refine UP.spl (m_cmp .eq what 1) (let z5 := F_tellOf s what; z5) (bif m_cmp .eq what 2 then (let z8 := F_tellOf s what; z8) else (bif m_cmp .eq what 3 then ((((s 124 0) + (s 124 1)) + (s 124 2), s)) else (bif m_cmp .eq what 4 then ((s 123 11, s)) else (bif m_cmp .eq what 5 then ((s 123 9, s)) else (bif m_cmp .eq what 6 then ((s 123 10, s)) else (bif m_cmp .eq what 7 then ((s 123 37, s)) else (bif m_cmp .eq what 8 then ((s 123 46, s)) else (((-2), s))))))))) (by first | (dsimp only [F_count]; done) | (dsimp only; done) | rfl) (fun cs1 => ?_) (fun cs1 => ?_)
    · skip
      refine UP.swT 1 rfl cs1 (by decide) (by decide) ?_
      refine UP.stp 2 (i1 := 4) (L1 := [some (.ref 123), some (.int what)]) (st1 := [.int what, .ref 123]) (s1 := s) rfl ?_
      refine UP.cB (M1 := m_X7_tellOf) (as := [.ref 123, .int what]) (rest := []) (T := F_tellOf s what) rfl rfl (ux_tellOf s what) (fun z5 e5 => ?_)
      exact UP.ret (r := some (.int z5.1)) rfl ⟨by subst e5; first | (dsimp only [F_count]; done) | (dsimp only; done) | rfl, by subst e5; first | (dsimp only [F_count]; done) | (dsimp only; done) | rfl⟩
    · skip
      refine UP.spl (m_cmp .eq what 2) (let z8 := F_tellOf s what; z8) (bif m_cmp .eq what 3 then ((((s 124 0) + (s 124 1)) + (s 124 2), s)) else (bif m_cmp .eq what 4 then ((s 123 11, s)) else (bif m_cmp .eq what 5 then ((s 123 9, s)) else (bif m_cmp .eq what 6 then ((s 123 10, s)) else (bif m_cmp .eq what 7 then ((s 123 37, s)) else (bif m_cmp .eq what 8 then ((s 123 46, s)) else (((-2), s)))))))) (by first | (dsimp only [F_count]; done) | (dsimp only; done) | rfl) (fun cs2 => ?_) (fun cs2 => ?_)
      · skip
        refine UP.swT 2 rfl cs2 (by decide) (by decide) ?_
        refine UP.stp 2 (i1 := 4) (L1 := [some (.ref 123), some (.int what)]) (st1 := [.int what, .ref 123]) (s1 := s) rfl ?_
        refine UP.cB (M1 := m_X7_tellOf) (as := [.ref 123, .int what]) (rest := []) (T := F_tellOf s what) rfl rfl (ux_tellOf s what) (fun z8 e8 => ?_)
        exact UP.ret (r := some (.int z8.1)) rfl ⟨by subst e8; first | (dsimp only [F_count]; done) | (dsimp only; done) | rfl, by subst e8; first | (dsimp only [F_count]; done) | (dsimp only; done) | rfl⟩
      · skip
        refine UP.spl (m_cmp .eq what 3) ((((s 124 0) + (s 124 1)) + (s 124 2), s)) (bif m_cmp .eq what 4 then ((s 123 11, s)) else (bif m_cmp .eq what 5 then ((s 123 9, s)) else (bif m_cmp .eq what 6 then ((s 123 10, s)) else (bif m_cmp .eq what 7 then ((s 123 37, s)) else (bif m_cmp .eq what 8 then ((s 123 46, s)) else (((-2), s))))))) (by first | (dsimp only [F_count]; done) | (dsimp only; done) | rfl) (fun cs3 => ?_) (fun cs3 => ?_)
        · skip
          refine UP.swT 3 rfl cs3 (by decide) (by decide) ?_
          refine UP.stp 14 (i1 := 20) (L1 := [some (.ref 123), some (.int what)]) (st1 := [.int (((s 124 0) + (s 124 1)) + (s 124 2))]) (s1 := s) rfl ?_
          exact UP.ret (r := some (.int (((s 124 0) + (s 124 1)) + (s 124 2)))) rfl ⟨by first | (dsimp only [F_count]; done) | (dsimp only; done) | rfl, by first | (dsimp only [F_count]; done) | (dsimp only; done) | rfl⟩
        · skip
          refine UP.spl (m_cmp .eq what 4) ((s 123 11, s)) (bif m_cmp .eq what 5 then ((s 123 9, s)) else (bif m_cmp .eq what 6 then ((s 123 10, s)) else (bif m_cmp .eq what 7 then ((s 123 37, s)) else (bif m_cmp .eq what 8 then ((s 123 46, s)) else (((-2), s)))))) (by first | (dsimp only [F_count]; done) | (dsimp only; done) | rfl) (fun cs4 => ?_) (fun cs4 => ?_)
          · skip
            refine UP.swT 4 rfl cs4 (by decide) (by decide) ?_
            refine UP.stp 2 (i1 := 23) (L1 := [some (.ref 123), some (.int what)]) (st1 := [.int (s 123 11)]) (s1 := s) rfl ?_
            exact UP.ret (r := some (.int (s 123 11))) rfl ⟨by first | (dsimp only [F_count]; done) | (dsimp only; done) | rfl, by first | (dsimp only [F_count]; done) | (dsimp only; done) | rfl⟩
          · skip
            refine UP.spl (m_cmp .eq what 5) ((s 123 9, s)) (bif m_cmp .eq what 6 then ((s 123 10, s)) else (bif m_cmp .eq what 7 then ((s 123 37, s)) else (bif m_cmp .eq what 8 then ((s 123 46, s)) else (((-2), s))))) (by first | (dsimp only [F_count]; done) | (dsimp only; done) | rfl) (fun cs5 => ?_) (fun cs5 => ?_)
            · skip
              refine UP.swT 5 rfl cs5 (by decide) (by decide) ?_
              refine UP.stp 2 (i1 := 26) (L1 := [some (.ref 123), some (.int what)]) (st1 := [.int (s 123 9)]) (s1 := s) rfl ?_
              exact UP.ret (r := some (.int (s 123 9))) rfl ⟨by first | (dsimp only [F_count]; done) | (dsimp only; done) | rfl, by first | (dsimp only [F_count]; done) | (dsimp only; done) | rfl⟩
            · skip
              refine UP.spl (m_cmp .eq what 6) ((s 123 10, s)) (bif m_cmp .eq what 7 then ((s 123 37, s)) else (bif m_cmp .eq what 8 then ((s 123 46, s)) else (((-2), s)))) (by first | (dsimp only [F_count]; done) | (dsimp only; done) | rfl) (fun cs6 => ?_) (fun cs6 => ?_)
              · skip
                refine UP.swT 6 rfl cs6 (by decide) (by decide) ?_
                refine UP.stp 2 (i1 := 29) (L1 := [some (.ref 123), some (.int what)]) (st1 := [.int (s 123 10)]) (s1 := s) rfl ?_
                exact UP.ret (r := some (.int (s 123 10))) rfl ⟨by first | (dsimp only [F_count]; done) | (dsimp only; done) | rfl, by first | (dsimp only [F_count]; done) | (dsimp only; done) | rfl⟩
              · skip
                refine UP.spl (m_cmp .eq what 7) ((s 123 37, s)) (bif m_cmp .eq what 8 then ((s 123 46, s)) else (((-2), s))) (by first | (dsimp only [F_count]; done) | (dsimp only; done) | rfl) (fun cs7 => ?_) (fun cs7 => ?_)
                · skip
                  refine UP.swT 7 rfl cs7 (by decide) (by decide) ?_
                  refine UP.stp 2 (i1 := 32) (L1 := [some (.ref 123), some (.int what)]) (st1 := [.int (s 123 37)]) (s1 := s) rfl ?_
                  exact UP.ret (r := some (.int (s 123 37))) rfl ⟨by first | (dsimp only [F_count]; done) | (dsimp only; done) | rfl, by first | (dsimp only [F_count]; done) | (dsimp only; done) | rfl⟩
                · skip
                  refine UP.spl (m_cmp .eq what 8) ((s 123 46, s)) (((-2), s)) (by first | (dsimp only [F_count]; done) | (dsimp only; done) | rfl) (fun cs8 => ?_) (fun cs8 => ?_)
                  · skip
                    refine UP.swT 8 rfl cs8 (by decide) (by decide) ?_
                    refine UP.stp 2 (i1 := 35) (L1 := [some (.ref 123), some (.int what)]) (st1 := [.int (s 123 46)]) (s1 := s) rfl ?_
                    exact UP.ret (r := some (.int (s 123 46))) rfl ⟨by first | (dsimp only [F_count]; done) | (dsimp only; done) | rfl, by first | (dsimp only [F_count]; done) | (dsimp only; done) | rfl⟩
                  · skip
                    refine UP.swD rfl (by have c0_ : what.toInt ≠ 0 := ne_int cs0; have c1_ : what.toInt ≠ 1 := ne_int cs1; have c2_ : what.toInt ≠ 2 := ne_int cs2; have c3_ : what.toInt ≠ 3 := ne_int cs3; have c4_ : what.toInt ≠ 4 := ne_int cs4; have c5_ : what.toInt ≠ 5 := ne_int cs5; have c6_ : what.toInt ≠ 6 := ne_int cs6; have c7_ : what.toInt ≠ 7 := ne_int cs7; have c8_ : what.toInt ≠ 8 := ne_int cs8; omega) ?_
                    refine UP.stp 1 (i1 := 37) (L1 := [some (.ref 123), some (.int what)]) (st1 := [.int (-2)]) (s1 := s) rfl ?_
                    exact UP.ret (r := some (.int (-2))) rfl ⟨by first | (dsimp only [F_count]; done) | (dsimp only; done) | rfl, by first | (dsimp only [F_count]; done) | (dsimp only; done) | rfl⟩
end
section
def W_write : List (Nat × Nat × Option Nat) := [(126, 129, none), (133, 144, none), (147, 147, none), (123, 123, some 2), (123, 123, some 5), (123, 123, some 7), (123, 123, some 17), (123, 123, some 19), (123, 123, some 20), (123, 123, some 21), (123, 123, some 22), (123, 123, some 23), (123, 123, some 24), (123, 123, some 25), (123, 123, some 26), (123, 123, some 27), (151, 151, none), (123, 123, some 46)]
def B_write_21 (what : Int32) (s_ : Int32) (i10 : Nat) (a10 : SG) : (SG) ⊕ (SG) := bif m_cmp .ge (Int32.ofNat i10) 24 then (.inr a10) else (let v11 := bif m_cmp .ne what 0 then a10 140 i10 else a10 139 i10; let z12 := F_keep a10 s_ (Int32.ofNat i10) v11; .inl z12)
set_option maxRecDepth 20000 in
set_option maxHeartbeats 200000 in
theorem fr_B_write_21 (what : Int32) (s_ : Int32) (i10 : Nat) (a10 : SG)   : Fr W_write a10 (Sum.elim (fun x : SG => x) (fun x : SG => x) ((B_write_21 what s_) i10 a10)) := by dsimp only [B_write_21]; exact (Fr.bifp (Sum.elim (fun x : SG => x) (fun x : SG => x)) (by (try dsimp only [Sum.elim_inl, Sum.elim_inr]); exact (Fr.rf _ _)) (by (try dsimp only [Sum.elim_inl, Sum.elim_inr]); exact (let v11 : Int32 := bif m_cmp .ne what 0 then a10 140 i10 else a10 139 i10; (let v11 : Int32 := bif m_cmp .ne what 0 then a10 140 i10 else a10 139 i10; (Fr.tr (s1 := a10) (Fr.rf _ _) (Fr.wk (W2 := W_write) (fr_keep a10 s_ (Int32.ofNat i10) v11) (by rfl)))))))
def F_write (s : SG) (what : Int32) (s_ : Int32) : Int32 × SG := bif m_cmp .eq (F_isTwo s what) 0 then (((-2), s)) else (bif m_cmp .ne (F_isSheet s s_) 0 then (bif m_cmp .ne (s 148 s_.toNatClampNeg) 0 then (let z9 := F_runsTold s ; Sum.elim (fun z10 : SG => (Int32.ofNat ((z9 150 s_.toNatClampNeg).toNatClampNeg), z10)) (fun w10 : Nat × (SG) => (Int32.ofNat w10.1, w10.2)) (itx (B_write_21 what s_) 0 ((z9 150 s_.toNatClampNeg).toNatClampNeg) z9)) else (let z15 := F_meets s 1; z15)) else (((-2), s)))
set_option maxRecDepth 20000 in
set_option maxHeartbeats 200000 in
theorem fr_write (s : SG) (what : Int32) (s_ : Int32)  : Fr W_write s (F_write s what s_).2 := by dsimp only [F_write]; exact (Fr.bifp (b := m_cmp .eq (F_isTwo s what) 0) (x := ((-2), s)) (y := bif m_cmp .ne (F_isSheet s s_) 0 then (bif m_cmp .ne (s 148 s_.toNatClampNeg) 0 then (let z9 := F_runsTold s ; Sum.elim (fun z10 : SG => (Int32.ofNat ((z9 150 s_.toNatClampNeg).toNatClampNeg), z10)) (fun w10 : Nat × (SG) => (Int32.ofNat w10.1, w10.2)) (itx (B_write_21 what s_) 0 ((z9 150 s_.toNatClampNeg).toNatClampNeg) z9)) else (let z15 := F_meets s 1; z15)) else (((-2), s))) (fun x : Int32 × SG => x.2) (by (try dsimp only); exact (Fr.rf _ _)) (by (try dsimp only); exact (Fr.bifp (b := m_cmp .ne (F_isSheet s s_) 0) (x := bif m_cmp .ne (s 148 s_.toNatClampNeg) 0 then (let z9 := F_runsTold s ; Sum.elim (fun z10 : SG => (Int32.ofNat ((z9 150 s_.toNatClampNeg).toNatClampNeg), z10)) (fun w10 : Nat × (SG) => (Int32.ofNat w10.1, w10.2)) (itx (B_write_21 what s_) 0 ((z9 150 s_.toNatClampNeg).toNatClampNeg) z9)) else (let z15 := F_meets s 1; z15)) (y := ((-2), s)) (fun x : Int32 × SG => x.2) (by (try dsimp only); exact (Fr.bifp (b := m_cmp .ne (s 148 s_.toNatClampNeg) 0) (x := let z9 := F_runsTold s ; Sum.elim (fun z10 : SG => (Int32.ofNat ((z9 150 s_.toNatClampNeg).toNatClampNeg), z10)) (fun w10 : Nat × (SG) => (Int32.ofNat w10.1, w10.2)) (itx (B_write_21 what s_) 0 ((z9 150 s_.toNatClampNeg).toNatClampNeg) z9)) (y := let z15 := F_meets s 1; z15) (fun x : Int32 × SG => x.2) (by (try dsimp only); exact (let z9 : SG := F_runsTold s ; (frElim (m := (fun x : Int32 × SG => x.2)) (fun z10 h => (Fr.tr (by have k := frItx (W := W_write) (m1 := (fun x : SG => x)) (m2 := (fun x : SG => x)) (f := (B_write_21 what s_)) ((z9 150 s_.toNatClampNeg).toNatClampNeg) (fun ii aa hh => Fr.wk (W2 := W_write) (fr_B_write_21 what s_ ii aa  ) (by rfl)) ((z9 150 s_.toNatClampNeg).toNatClampNeg) 0 z9 (by omega) (Fr.tr (s1 := s) (Fr.rf _ _) (Fr.wk (W2 := W_write) (fr_runsTold s ) (by rfl))); rw [h] at k; exact k) (Fr.rf _ _))) (fun w10 h => (Fr.tr (by have k := frItx (W := W_write) (m1 := (fun x : SG => x)) (m2 := (fun x : SG => x)) (f := (B_write_21 what s_)) ((z9 150 s_.toNatClampNeg).toNatClampNeg) (fun ii aa hh => Fr.wk (W2 := W_write) (fr_B_write_21 what s_ ii aa  ) (by rfl)) ((z9 150 s_.toNatClampNeg).toNatClampNeg) 0 z9 (by omega) (Fr.tr (s1 := s) (Fr.rf _ _) (Fr.wk (W2 := W_write) (fr_runsTold s ) (by rfl))); rw [h] at k; exact k) (Fr.rf _ _)))))) (by (try dsimp only); exact (Fr.tr (s1 := s) (Fr.rf _ _) (Fr.wk (W2 := W_write) (fr_meets s 1) (by rfl)))))) (by (try dsimp only); exact (Fr.rf _ _)))))
set_option maxRecDepth 20000 in
set_option maxHeartbeats 200000 in
theorem ux_write (s : SG) (what : Int32) (s_ : Int32)  : UP m_X7_write 0 (m_ent 4 [.ref 123, .int what, .int s_]) [] s (Qb (F_write s what s_)) := by
  refine UP.stp 1 (i1 := 1) (L1 := [some (.ref 123), some (.int what), some (.int s_), none]) (st1 := [.int what]) (s1 := s) rfl ?_
  refine UP.cI (M1 := m_X7_isTwo) (as := [.int what]) (rest := []) (T := F_isTwo s what) rfl rfl (ux_isTwo s what) ?_
  refine UP.spl (m_cmp .eq (F_isTwo s what) 0) (((-2), s)) (bif m_cmp .ne (F_isSheet s s_) 0 then (bif m_cmp .ne (s 148 s_.toNatClampNeg) 0 then (let z9 := F_runsTold s ; Sum.elim (fun z10 : SG => (Int32.ofNat ((z9 150 s_.toNatClampNeg).toNatClampNeg), z10)) (fun w10 : Nat × (SG) => (Int32.ofNat w10.1, w10.2)) (itx (B_write_21 what s_) 0 ((z9 150 s_.toNatClampNeg).toNatClampNeg) z9)) else (let z15 := F_meets s 1; z15)) else (((-2), s))) (by first | (dsimp only [F_write]; done) | (dsimp only; done) | rfl) (fun cc => ?_) (fun cc => ?_)
  · skip
    refine UP.ifT rfl cc ?_
    refine UP.stp 1 (i1 := 7) (L1 := [some (.ref 123), some (.int what), some (.int s_), none]) (st1 := [.int (-2)]) (s1 := s) rfl ?_
    exact UP.ret (r := some (.int (-2))) rfl ⟨by first | (dsimp only [F_write]; done) | (dsimp only; done) | rfl, by first | (dsimp only [F_write]; done) | (dsimp only; done) | rfl⟩
  · skip
    refine UP.ifF rfl cc ?_
    refine UP.stp 1 (i1 := 4) (L1 := [some (.ref 123), some (.int what), some (.int s_), none]) (st1 := [.int s_]) (s1 := s) rfl ?_
    refine UP.cI (M1 := m_X7_isSheet) (as := [.int s_]) (rest := []) (T := F_isSheet s s_) rfl rfl (ux_isSheet s s_) ?_
    refine UP.spl (m_cmp .ne (F_isSheet s s_) 0) (bif m_cmp .ne (s 148 s_.toNatClampNeg) 0 then (let z9 := F_runsTold s ; Sum.elim (fun z10 : SG => (Int32.ofNat ((z9 150 s_.toNatClampNeg).toNatClampNeg), z10)) (fun w10 : Nat × (SG) => (Int32.ofNat w10.1, w10.2)) (itx (B_write_21 what s_) 0 ((z9 150 s_.toNatClampNeg).toNatClampNeg) z9)) else (let z15 := F_meets s 1; z15)) (((-2), s)) (by first | (dsimp only [F_write]; done) | (dsimp only; done) | rfl) (fun cc => ?_) (fun cc => ?_)
    · skip
      refine UP.ifT rfl cc ?_
      refine UP.stp 4 (i1 := 12) (L1 := [some (.ref 123), some (.int what), some (.int s_), none]) (st1 := [.int (s 148 s_.toNatClampNeg)]) (s1 := s) rfl ?_
      refine UP.spl (m_cmp .ne (s 148 s_.toNatClampNeg) 0) (let z9 := F_runsTold s ; Sum.elim (fun z10 : SG => (Int32.ofNat ((z9 150 s_.toNatClampNeg).toNatClampNeg), z10)) (fun w10 : Nat × (SG) => (Int32.ofNat w10.1, w10.2)) (itx (B_write_21 what s_) 0 ((z9 150 s_.toNatClampNeg).toNatClampNeg) z9)) (let z15 := F_meets s 1; z15) (by first | (dsimp only [F_write]; done) | (dsimp only; done) | rfl) (fun cc => ?_) (fun cc => ?_)
      · skip
        refine UP.ifT rfl cc ?_
        refine UP.stp 1 (i1 := 18) (L1 := [some (.ref 123), some (.int what), some (.int s_), none]) (st1 := [.ref 123]) (s1 := s) rfl ?_
        refine UP.cV (M1 := m_X7_runsTold) (as := [.ref 123]) (rest := []) (T := F_runsTold s ) rfl rfl (ux_runsTold s ) (fun z9 e9 => ?_)
        refine UP.stp 2 (i1 := 21) (L1 := [some (.ref 123), some (.int what), some (.int s_), some (.int 0)]) (st1 := []) (s1 := z9) rfl ?_
        refine lpx (fun (i10 : Nat) (a10 : SG) => UP m_X7_write 21 [some (.ref 123), some (.int what), some (.int s_), some (.int (Int32.ofNat i10))] [] a10 (Qb (let z9 := F_runsTold s ; Sum.elim (fun z10 : SG => (Int32.ofNat ((z9 150 s_.toNatClampNeg).toNatClampNeg), z10)) (fun w10 : Nat × (SG) => (Int32.ofNat w10.1, w10.2)) (itx (B_write_21 what s_) 0 ((z9 150 s_.toNatClampNeg).toNatClampNeg) z9)))) (fun (i10 : Nat) (b10 : SG) => ∀ (u10_0 : Option Value) (u10_1 : Option Value) (u10_2 : Option Value), UP m_X7_write 47 [u10_0, u10_1, u10_2, some (.int (Int32.ofNat i10))] [] b10 (Qb (let z9 := F_runsTold s ; Sum.elim (fun z10 : SG => (Int32.ofNat ((z9 150 s_.toNatClampNeg).toNatClampNeg), z10)) (fun w10 : Nat × (SG) => (Int32.ofNat w10.1, w10.2)) (itx (B_write_21 what s_) 0 ((z9 150 s_.toNatClampNeg).toNatClampNeg) z9)))) (fun (_ : Nat) (a10 : SG) => Fr W_write z9 a10) (B_write_21 what s_) ((z9 150 s_.toNatClampNeg).toNatClampNeg) (fun i10 a10 x10 hi10 g10 e => by have q := g10.tr (fr_B_write_21 what s_ i10 a10 ); rw [e] at q; exact q) (fun i10 a10 hi10 g10 kk => ?_) ((z9 150 s_.toNatClampNeg).toNatClampNeg) (0) z9 (by omega) (Fr.rf _ _) (fun z10 e10 g10 => ?_) (fun i10 a10 b10 e10 hi10 g10 f10 => ?_)
        · skip
          have hbi10 := cl_lt (z9 150 s_.toNatClampNeg)
          refine UP.stp 5 (i1 := 26) (L1 := [some (.ref 123), some (.int what), some (.int s_), some (.int (Int32.ofNat i10))]) (st1 := [.int (a10 150 s_.toNatClampNeg), .int (Int32.ofNat i10)]) (s1 := a10) rfl ?_
          refine UP.icF rfl (by rw [(g10 150 s_.toNatClampNeg rfl)]; exact ge_F hi10) ?_
          refine UP.stp 2 (i1 := 29) (L1 := [some (.ref 123), some (.int what), some (.int s_), some (.int (Int32.ofNat i10))]) (st1 := [.int 24, .int (Int32.ofNat i10)]) (s1 := a10) rfl ?_
          refine brk (K := (Kx (fun (i10 : Nat) (a10 : SG) => UP m_X7_write 21 [some (.ref 123), some (.int what), some (.int s_), some (.int (Int32.ofNat i10))] [] a10 (Qb (let z9 := F_runsTold s ; Sum.elim (fun z10 : SG => (Int32.ofNat ((z9 150 s_.toNatClampNeg).toNatClampNeg), z10)) (fun w10 : Nat × (SG) => (Int32.ofNat w10.1, w10.2)) (itx (B_write_21 what s_) 0 ((z9 150 s_.toNatClampNeg).toNatClampNeg) z9)))) (fun (i10 : Nat) (b10 : SG) => ∀ (u10_0 : Option Value) (u10_1 : Option Value) (u10_2 : Option Value), UP m_X7_write 47 [u10_0, u10_1, u10_2, some (.int (Int32.ofNat i10))] [] b10 (Qb (let z9 := F_runsTold s ; Sum.elim (fun z10 : SG => (Int32.ofNat ((z9 150 s_.toNatClampNeg).toNatClampNeg), z10)) (fun w10 : Nat × (SG) => (Int32.ofNat w10.1, w10.2)) (itx (B_write_21 what s_) 0 ((z9 150 s_.toNatClampNeg).toNatClampNeg) z9)))) i10)) (m_cmp .ge (Int32.ofNat i10) 24) (.inr a10) (let v11 := bif m_cmp .ne what 0 then a10 140 i10 else a10 139 i10; let z12 := F_keep a10 s_ (Int32.ofNat i10) v11; .inl z12) (by (try dsimp only [B_write_21] at kk ⊢); exact kk) (fun cc kk => ?_) (fun cc kk => ?_)
          · skip
            refine UP.icT rfl cc ?_
            exact kk _ _ _
          · skip
            refine UP.icF rfl cc ?_
            refine UP.stp 4 (i1 := 34) (L1 := [some (.ref 123), some (.int what), some (.int s_), some (.int (Int32.ofNat i10))]) (st1 := [.int what, .int (Int32.ofNat i10), .int s_, .ref 123]) (s1 := a10) rfl ?_
            refine mrg (m_cmp .ne what 0) (a10 140 i10) (a10 139 i10) (fun v11 : Int32 => UP m_X7_write 44 [some (.ref 123), some (.int what), some (.int s_), some (.int (Int32.ofNat i10))] [.int v11, .int (Int32.ofNat i10), .int s_, .ref 123] a10 (Qb (let z9 := F_runsTold s ; Sum.elim (fun z10 : SG => (Int32.ofNat ((z9 150 s_.toNatClampNeg).toNatClampNeg), z10)) (fun w10 : Nat × (SG) => (Int32.ofNat w10.1, w10.2)) (itx (B_write_21 what s_) 0 ((z9 150 s_.toNatClampNeg).toNatClampNeg) z9)))) (fun cc kk => ?_) (fun cc kk => ?_) (fun v11 e11 => ?_)
            · skip
              refine UP.ifT rfl cc ?_
              refine UP.stp 3 (i1 := 43) (L1 := [some (.ref 123), some (.int what), some (.int s_), some (.int (Int32.ofNat i10))]) (st1 := [.int (Int32.ofNat i10), .ref 140, .int (Int32.ofNat i10), .int s_, .ref 123]) (s1 := a10) rfl ?_
              refine UP.ald (e := i10) rfl rfl (by omega) ?_
              show UP m_X7_write 44 [some (.ref 123), some (.int what), some (.int s_), some (.int (Int32.ofNat i10))] [.int (a10 140 i10), .int (Int32.ofNat i10), .int s_, .ref 123] a10 (Qb (let z9 := F_runsTold s ; Sum.elim (fun z10 : SG => (Int32.ofNat ((z9 150 s_.toNatClampNeg).toNatClampNeg), z10)) (fun w10 : Nat × (SG) => (Int32.ofNat w10.1, w10.2)) (itx (B_write_21 what s_) 0 ((z9 150 s_.toNatClampNeg).toNatClampNeg) z9)))
              exact kk
            · skip
              refine UP.ifF rfl cc ?_
              refine UP.stp 3 (i1 := 38) (L1 := [some (.ref 123), some (.int what), some (.int s_), some (.int (Int32.ofNat i10))]) (st1 := [.int (Int32.ofNat i10), .ref 139, .int (Int32.ofNat i10), .int s_, .ref 123]) (s1 := a10) rfl ?_
              refine UP.ald (e := i10) rfl rfl (by omega) ?_
              show UP m_X7_write 39 [some (.ref 123), some (.int what), some (.int s_), some (.int (Int32.ofNat i10))] [.int (a10 139 i10), .int (Int32.ofNat i10), .int s_, .ref 123] a10 (Qb (let z9 := F_runsTold s ; Sum.elim (fun z10 : SG => (Int32.ofNat ((z9 150 s_.toNatClampNeg).toNatClampNeg), z10)) (fun w10 : Nat × (SG) => (Int32.ofNat w10.1, w10.2)) (itx (B_write_21 what s_) 0 ((z9 150 s_.toNatClampNeg).toNatClampNeg) z9)))
              refine UP.stp 1 (i1 := 44) (L1 := [some (.ref 123), some (.int what), some (.int s_), some (.int (Int32.ofNat i10))]) (st1 := [.int (a10 139 i10), .int (Int32.ofNat i10), .int s_, .ref 123]) (s1 := a10) rfl ?_
              exact kk
            refine UP.cV (M1 := m_X7_keep) (as := [.ref 123, .int s_, .int (Int32.ofNat i10), .int v11]) (rest := []) (T := F_keep a10 s_ (Int32.ofNat i10) v11) rfl rfl (ux_keep a10 s_ (Int32.ofNat i10) v11) (fun z12 e12 => ?_)
            refine UP.stp 2 (i1 := 21) (L1 := [some (.ref 123), some (.int what), some (.int s_), some (.int ((Int32.ofNat i10) + 1))]) (st1 := []) (s1 := z12) rfl ?_
            subst e12 e11
            rw [ofn_s]
            exact kk
        · skip
          refine UP.eqT ((Int32.ofNat ((z9 150 s_.toNatClampNeg).toNatClampNeg), z10)) (by have q : (let z9 := F_runsTold s ; Sum.elim (fun z10 : SG => (Int32.ofNat ((z9 150 s_.toNatClampNeg).toNatClampNeg), z10)) (fun w10 : Nat × (SG) => (Int32.ofNat w10.1, w10.2)) (itx (B_write_21 what s_) 0 ((z9 150 s_.toNatClampNeg).toNatClampNeg) z9)) = Sum.elim (fun z10 : SG => (Int32.ofNat ((z9 150 s_.toNatClampNeg).toNatClampNeg), z10)) (fun w10 : Nat × (SG) => (Int32.ofNat w10.1, w10.2)) (itx (B_write_21 what s_) 0 ((z9 150 s_.toNatClampNeg).toNatClampNeg) z9) := (by subst e9; first | (dsimp only [F_write]; done) | (dsimp only; done) | rfl); rw [q, e10]; first | (dsimp only [Sum.elim_inl]; done) | rfl) ?_
          refine UP.stp 5 (i1 := 26) (L1 := [some (.ref 123), some (.int what), some (.int s_), some (.int (Int32.ofNat ((z9 150 s_.toNatClampNeg).toNatClampNeg)))]) (st1 := [.int (z10 150 s_.toNatClampNeg), .int (Int32.ofNat ((z9 150 s_.toNatClampNeg).toNatClampNeg))]) (s1 := z10) rfl ?_
          refine UP.icT rfl (by rw [(g10 150 s_.toNatClampNeg rfl)]; exact ge_T _) ?_
          refine UP.stp 1 (i1 := 48) (L1 := [some (.ref 123), some (.int what), some (.int s_), some (.int (Int32.ofNat ((z9 150 s_.toNatClampNeg).toNatClampNeg)))]) (st1 := [.int (Int32.ofNat ((z9 150 s_.toNatClampNeg).toNatClampNeg))]) (s1 := z10) rfl ?_
          exact UP.ret (r := some (.int (Int32.ofNat ((z9 150 s_.toNatClampNeg).toNatClampNeg)))) rfl ⟨by subst e9; first | (dsimp only [F_write]; done) | (dsimp only; done) | rfl, by subst e9; first | (dsimp only [F_write]; done) | (dsimp only; done) | rfl⟩
        · skip
          intro u10_0 u10_1 u10_2
          refine UP.eqT ((Int32.ofNat i10, b10)) (by have q : (let z9 := F_runsTold s ; Sum.elim (fun z10 : SG => (Int32.ofNat ((z9 150 s_.toNatClampNeg).toNatClampNeg), z10)) (fun w10 : Nat × (SG) => (Int32.ofNat w10.1, w10.2)) (itx (B_write_21 what s_) 0 ((z9 150 s_.toNatClampNeg).toNatClampNeg) z9)) = Sum.elim (fun z10 : SG => (Int32.ofNat ((z9 150 s_.toNatClampNeg).toNatClampNeg), z10)) (fun w10 : Nat × (SG) => (Int32.ofNat w10.1, w10.2)) (itx (B_write_21 what s_) 0 ((z9 150 s_.toNatClampNeg).toNatClampNeg) z9) := (by subst e9; first | (dsimp only [F_write]; done) | (dsimp only; done) | rfl); rw [q, e10]; first | (dsimp only [Sum.elim_inr]; done) | rfl) ?_
          refine UP.stp 1 (i1 := 48) (L1 := [u10_0, u10_1, u10_2, some (.int (Int32.ofNat i10))]) (st1 := [.int (Int32.ofNat i10)]) (s1 := b10) rfl ?_
          exact UP.ret (r := some (.int (Int32.ofNat i10))) rfl ⟨by subst e9; first | (dsimp only [F_write]; done) | (dsimp only; done) | rfl, by subst e9; first | (dsimp only [F_write]; done) | (dsimp only; done) | rfl⟩
      · skip
        refine UP.ifF rfl cc ?_
        refine UP.stp 2 (i1 := 15) (L1 := [some (.ref 123), some (.int what), some (.int s_), none]) (st1 := [.int 1, .ref 123]) (s1 := s) rfl ?_
        refine UP.cB (M1 := m_X7_meets) (as := [.ref 123, .int 1]) (rest := []) (T := F_meets s 1) rfl rfl (ux_meets s 1) (fun z15 e15 => ?_)
        exact UP.ret (r := some (.int z15.1)) rfl ⟨by subst e15; first | (dsimp only [F_write]; done) | (dsimp only; done) | rfl, by subst e15; first | (dsimp only [F_write]; done) | (dsimp only; done) | rfl⟩
    · skip
      refine UP.ifF rfl cc ?_
      refine UP.stp 1 (i1 := 7) (L1 := [some (.ref 123), some (.int what), some (.int s_), none]) (st1 := [.int (-2)]) (s1 := s) rfl ?_
      exact UP.ret (r := some (.int (-2))) rfl ⟨by first | (dsimp only [F_write]; done) | (dsimp only; done) | rfl, by first | (dsimp only [F_write]; done) | (dsimp only; done) | rfl⟩
end
section
def W_isBelow : List (Nat × Nat × Option Nat) := []
def F_isBelow (s : SG) (v : Int32) (n : Int32) : Int32 := let v2 := bif m_cmp .lt v 0 then (0 : Int32) else (bif m_cmp .ge v n then (0 : Int32) else (1 : Int32)); v2
set_option maxRecDepth 20000 in
set_option maxHeartbeats 200000 in
theorem ux_isBelow (s : SG) (v : Int32) (n : Int32)  : UP m_X6_isBelow 0 (m_ent 2 [.int v, .int n]) [] s (Qi s (F_isBelow s v n)) := by
  refine UP.stp 1 (i1 := 1) (L1 := [some (.int v), some (.int n)]) (st1 := [.int v]) (s1 := s) rfl ?_
  refine mrg (m_cmp .lt v 0) (0 : Int32) (bif m_cmp .ge v n then (0 : Int32) else (1 : Int32)) (fun v2 : Int32 => UP m_X6_isBelow 8 [some (.int v), some (.int n)] [.int v2] s (Qi s (F_isBelow s v n))) (fun cc kk => ?_) (fun cc kk => ?_) (fun v2 e2 => ?_)
  · skip
    refine UP.ifT rfl cc ?_
    refine UP.stp 1 (i1 := 8) (L1 := [some (.int v), some (.int n)]) (st1 := [.int 0]) (s1 := s) rfl ?_
    exact kk
  · skip
    refine UP.ifF rfl cc ?_
    refine UP.stp 2 (i1 := 4) (L1 := [some (.int v), some (.int n)]) (st1 := [.int n, .int v]) (s1 := s) rfl ?_
    refine mrg (m_cmp .ge v n) (0 : Int32) (1 : Int32) (fun v1 : Int32 => UP m_X6_isBelow 8 [some (.int v), some (.int n)] [.int v1] s (Qi s (F_isBelow s v n))) (fun cc kk => ?_) (fun cc kk => ?_) (fun v1 e1 => ?_)
    · skip
      refine UP.icT rfl cc ?_
      refine UP.stp 1 (i1 := 8) (L1 := [some (.int v), some (.int n)]) (st1 := [.int 0]) (s1 := s) rfl ?_
      exact kk
    · skip
      refine UP.icF rfl cc ?_
      refine UP.stp 2 (i1 := 8) (L1 := [some (.int v), some (.int n)]) (st1 := [.int 1]) (s1 := s) rfl ?_
      exact kk
    subst e1
    exact kk
  exact UP.ret (r := some (.int v2)) rfl ⟨by subst e2; first | (dsimp only [F_isBelow]; done) | (dsimp only; done) | rfl, by subst e2; first | (dsimp only [F_isBelow]; done) | (dsimp only; done) | rfl⟩
def W_hasBit : List (Nat × Nat × Option Nat) := []
def F_hasBit (s : SG) (b : Int32) (k : Int32) : Int32 := let v1 := bif m_cmp .ne ((b >>> (k &&& 31)) &&& (1 : Int32)) 1 then (0 : Int32) else (1 : Int32); v1
set_option maxRecDepth 20000 in
set_option maxHeartbeats 200000 in
theorem ux_hasBit (s : SG) (b : Int32) (k : Int32)  : UP m_X6_hasBit 0 (m_ent 2 [.int b, .int k]) [] s (Qi s (F_hasBit s b k)) := by
  refine UP.stp 6 (i1 := 6) (L1 := [some (.int b), some (.int k)]) (st1 := [.int 1, .int ((b >>> (k &&& 31)) &&& (1 : Int32))]) (s1 := s) rfl ?_
  refine mrg (m_cmp .ne ((b >>> (k &&& 31)) &&& (1 : Int32)) 1) (0 : Int32) (1 : Int32) (fun v1 : Int32 => UP m_X6_hasBit 10 [some (.int b), some (.int k)] [.int v1] s (Qi s (F_hasBit s b k))) (fun cc kk => ?_) (fun cc kk => ?_) (fun v1 e1 => ?_)
  · skip
    refine UP.icT rfl cc ?_
    refine UP.stp 1 (i1 := 10) (L1 := [some (.int b), some (.int k)]) (st1 := [.int 0]) (s1 := s) rfl ?_
    exact kk
  · skip
    refine UP.icF rfl cc ?_
    refine UP.stp 2 (i1 := 10) (L1 := [some (.int b), some (.int k)]) (st1 := [.int 1]) (s1 := s) rfl ?_
    exact kk
  exact UP.ret (r := some (.int v1)) rfl ⟨by subst e1; first | (dsimp only [F_hasBit]; done) | (dsimp only; done) | rfl, by subst e1; first | (dsimp only [F_hasBit]; done) | (dsimp only; done) | rfl⟩
def W_cisRower : List (Nat × Nat × Option Nat) := []
def F_cisRower (s : SG) (k : Int32) : Int32 := F_isBelow s k (s 10 0)
set_option maxRecDepth 20000 in
set_option maxHeartbeats 200000 in
theorem ux_cisRower (s : SG) (k : Int32)  : UP m_X6_isRower 0 (m_ent 2 [.ref 0, .int k]) [] s (Qi s (F_cisRower s k)) := by
  refine UP.stp 4 (i1 := 4) (L1 := [some (.ref 0), some (.int k)]) (st1 := [.int (s 10 0), .int k]) (s1 := s) rfl ?_
  refine UP.cI (M1 := m_X6_isBelow) (as := [.int k, .int (s 10 0)]) (rest := []) (T := F_isBelow s k (s 10 0)) rfl rfl (ux_isBelow s k (s 10 0)) ?_
  exact UP.ret (r := some (.int (F_isBelow s k (s 10 0)))) rfl ⟨by first | (dsimp only [F_cisRower]; done) | (dsimp only; done) | rfl, by first | (dsimp only [F_cisRower]; done) | (dsimp only; done) | rfl⟩
def W_find : List (Nat × Nat × Option Nat) := [(0, 0, some 4)]
def F_find (s : SG) (number : Int32) : Int32 × SG := ((-10) - number, (uset s 0 4 number))
set_option maxRecDepth 20000 in
set_option maxHeartbeats 200000 in
theorem fr_find (s : SG) (number : Int32)  : Fr W_find s (F_find s number).2 := by dsimp only [F_find]; exact (Fr.uset (s1 := s) (a := 0) (j := 4) (x := number) (by rfl) (Fr.rf _ _))
set_option maxRecDepth 20000 in
set_option maxHeartbeats 200000 in
theorem ux_find (s : SG) (number : Int32)  : UP m_X6_find 0 (m_ent 2 [.ref 0, .int number]) [] s (Qb (F_find s number)) := by
  refine UP.stp 6 (i1 := 6) (L1 := [some (.ref 0), some (.int number)]) (st1 := [.int ((-10) - number)]) (s1 := (uset s 0 4 number)) rfl ?_
  exact UP.ret (r := some (.int ((-10) - number))) rfl ⟨by first | (dsimp only [F_find]; done) | (dsimp only; done) | rfl, by first | (dsimp only [F_find]; done) | (dsimp only; done) | rfl⟩
def W_mark : List (Nat × Nat × Option Nat) := [(0, 0, some 12), (0, 0, some 13)]
def F_mark (s : SG)  : SG := (uset (uset s 0 12 1) 0 13 1)
set_option maxRecDepth 20000 in
set_option maxHeartbeats 200000 in
theorem fr_mark (s : SG)   : Fr W_mark s (F_mark s) := by dsimp only [F_mark]; exact (Fr.uset (s1 := (uset s 0 12 1)) (a := 0) (j := 13) (x := 1) (by rfl) (Fr.uset (s1 := s) (a := 0) (j := 12) (x := 1) (by rfl) (Fr.rf _ _)))
set_option maxRecDepth 20000 in
set_option maxHeartbeats 200000 in
theorem ux_mark (s : SG)   : UP m_X6_markChanged 0 (m_ent 1 [.ref 0]) [] s (Qv (F_mark s)) := by
  refine UP.stp 6 (i1 := 6) (L1 := [some (.ref 0)]) (st1 := []) (s1 := (uset (uset s 0 12 1) 0 13 1)) rfl ?_
  exact UP.ret (r := none) rfl ⟨by first | (dsimp only [F_mark]; done) | (dsimp only; done) | rfl, by first | (dsimp only [F_mark]; done) | (dsimp only; done) | rfl⟩
end
section
def W_fitsCrew : List (Nat × Nat × Option Nat) := []
def F_fitsCrew (s : SG) (part : Int32) (b : Int32) : Int32 := bif m_cmp .ne part 0 then (let v6 := bif m_cmp .ne part 1 then (bif m_cmp .ne b 59 then (0 : Int32) else (1 : Int32)) else (bif m_cmp .lt b 49 then (0 : Int32) else (bif m_cmp .gt b 57 then (0 : Int32) else (1 : Int32))); v6) else (let v9 := bif m_cmp .eq b 115 then (1 : Int32) else (bif m_cmp .eq b 102 then (1 : Int32) else (bif m_cmp .ne b 108 then (0 : Int32) else (1 : Int32))); v9)
set_option maxRecDepth 20000 in
set_option maxHeartbeats 200000 in
theorem ux_fitsCrew (s : SG) (part : Int32) (b : Int32)  : UP m_X4_fitsCrew 0 (m_ent 2 [.int part, .int b]) [] s (Qi s (F_fitsCrew s part b)) := by
  refine UP.stp 1 (i1 := 1) (L1 := [some (.int part), some (.int b)]) (st1 := [.int part]) (s1 := s) rfl ?_
  refine UP.spl (m_cmp .ne part 0) (let v6 := bif m_cmp .ne part 1 then (bif m_cmp .ne b 59 then (0 : Int32) else (1 : Int32)) else (bif m_cmp .lt b 49 then (0 : Int32) else (bif m_cmp .gt b 57 then (0 : Int32) else (1 : Int32))); v6) (let v9 := bif m_cmp .eq b 115 then (1 : Int32) else (bif m_cmp .eq b 102 then (1 : Int32) else (bif m_cmp .ne b 108 then (0 : Int32) else (1 : Int32))); v9) (by first | (dsimp only [F_fitsCrew]; done) | (dsimp only; done) | rfl) (fun cc => ?_) (fun cc => ?_)
  · skip
    refine UP.ifT rfl cc ?_
    refine UP.stp 2 (i1 := 17) (L1 := [some (.int part), some (.int b)]) (st1 := [.int 1, .int part]) (s1 := s) rfl ?_
    refine mrg (m_cmp .ne part 1) (bif m_cmp .ne b 59 then (0 : Int32) else (1 : Int32)) (bif m_cmp .lt b 49 then (0 : Int32) else (bif m_cmp .gt b 57 then (0 : Int32) else (1 : Int32))) (fun v6 : Int32 => UP m_X4_fitsCrew 34 [some (.int part), some (.int b)] [.int v6] s (Qi s (let v6 := bif m_cmp .ne part 1 then (bif m_cmp .ne b 59 then (0 : Int32) else (1 : Int32)) else (bif m_cmp .lt b 49 then (0 : Int32) else (bif m_cmp .gt b 57 then (0 : Int32) else (1 : Int32))); v6))) (fun cc kk => ?_) (fun cc kk => ?_) (fun v6 e6 => ?_)
    · skip
      refine UP.icT rfl cc ?_
      refine UP.stp 2 (i1 := 30) (L1 := [some (.int part), some (.int b)]) (st1 := [.int 59, .int b]) (s1 := s) rfl ?_
      refine mrg (m_cmp .ne b 59) (0 : Int32) (1 : Int32) (fun v3 : Int32 => UP m_X4_fitsCrew 34 [some (.int part), some (.int b)] [.int v3] s (Qi s (let v6 := bif m_cmp .ne part 1 then (bif m_cmp .ne b 59 then (0 : Int32) else (1 : Int32)) else (bif m_cmp .lt b 49 then (0 : Int32) else (bif m_cmp .gt b 57 then (0 : Int32) else (1 : Int32))); v6))) (fun cc kk => ?_) (fun cc kk => ?_) (fun v3 e3 => ?_)
      · skip
        refine UP.icT rfl cc ?_
        refine UP.stp 1 (i1 := 34) (L1 := [some (.int part), some (.int b)]) (st1 := [.int 0]) (s1 := s) rfl ?_
        exact kk
      · skip
        refine UP.icF rfl cc ?_
        refine UP.stp 2 (i1 := 34) (L1 := [some (.int part), some (.int b)]) (st1 := [.int 1]) (s1 := s) rfl ?_
        exact kk
      subst e3
      exact kk
    · skip
      refine UP.icF rfl cc ?_
      refine UP.stp 2 (i1 := 20) (L1 := [some (.int part), some (.int b)]) (st1 := [.int 49, .int b]) (s1 := s) rfl ?_
      refine mrg (m_cmp .lt b 49) (0 : Int32) (bif m_cmp .gt b 57 then (0 : Int32) else (1 : Int32)) (fun v5 : Int32 => UP m_X4_fitsCrew 34 [some (.int part), some (.int b)] [.int v5] s (Qi s (let v6 := bif m_cmp .ne part 1 then (bif m_cmp .ne b 59 then (0 : Int32) else (1 : Int32)) else (bif m_cmp .lt b 49 then (0 : Int32) else (bif m_cmp .gt b 57 then (0 : Int32) else (1 : Int32))); v6))) (fun cc kk => ?_) (fun cc kk => ?_) (fun v5 e5 => ?_)
      · skip
        refine UP.icT rfl cc ?_
        refine UP.stp 2 (i1 := 34) (L1 := [some (.int part), some (.int b)]) (st1 := [.int 0]) (s1 := s) rfl ?_
        exact kk
      · skip
        refine UP.icF rfl cc ?_
        refine UP.stp 2 (i1 := 23) (L1 := [some (.int part), some (.int b)]) (st1 := [.int 57, .int b]) (s1 := s) rfl ?_
        refine mrg (m_cmp .gt b 57) (0 : Int32) (1 : Int32) (fun v4 : Int32 => UP m_X4_fitsCrew 34 [some (.int part), some (.int b)] [.int v4] s (Qi s (let v6 := bif m_cmp .ne part 1 then (bif m_cmp .ne b 59 then (0 : Int32) else (1 : Int32)) else (bif m_cmp .lt b 49 then (0 : Int32) else (bif m_cmp .gt b 57 then (0 : Int32) else (1 : Int32))); v6))) (fun cc kk => ?_) (fun cc kk => ?_) (fun v4 e4 => ?_)
        · skip
          refine UP.icT rfl cc ?_
          refine UP.stp 2 (i1 := 34) (L1 := [some (.int part), some (.int b)]) (st1 := [.int 0]) (s1 := s) rfl ?_
          exact kk
        · skip
          refine UP.icF rfl cc ?_
          refine UP.stp 2 (i1 := 34) (L1 := [some (.int part), some (.int b)]) (st1 := [.int 1]) (s1 := s) rfl ?_
          exact kk
        subst e4
        exact kk
      subst e5
      exact kk
    exact UP.ret (r := some (.int v6)) rfl ⟨by subst e6; first | (dsimp only [F_fitsCrew]; done) | (dsimp only; done) | rfl, by subst e6; first | (dsimp only [F_fitsCrew]; done) | (dsimp only; done) | rfl⟩
  · skip
    refine UP.ifF rfl cc ?_
    refine UP.stp 2 (i1 := 4) (L1 := [some (.int part), some (.int b)]) (st1 := [.int 115, .int b]) (s1 := s) rfl ?_
    refine mrg (m_cmp .eq b 115) (1 : Int32) (bif m_cmp .eq b 102 then (1 : Int32) else (bif m_cmp .ne b 108 then (0 : Int32) else (1 : Int32))) (fun v9 : Int32 => UP m_X4_fitsCrew 14 [some (.int part), some (.int b)] [.int v9] s (Qi s (let v9 := bif m_cmp .eq b 115 then (1 : Int32) else (bif m_cmp .eq b 102 then (1 : Int32) else (bif m_cmp .ne b 108 then (0 : Int32) else (1 : Int32))); v9))) (fun cc kk => ?_) (fun cc kk => ?_) (fun v9 e9 => ?_)
    · skip
      refine UP.icT rfl cc ?_
      refine UP.stp 2 (i1 := 14) (L1 := [some (.int part), some (.int b)]) (st1 := [.int 1]) (s1 := s) rfl ?_
      exact kk
    · skip
      refine UP.icF rfl cc ?_
      refine UP.stp 2 (i1 := 7) (L1 := [some (.int part), some (.int b)]) (st1 := [.int 102, .int b]) (s1 := s) rfl ?_
      refine mrg (m_cmp .eq b 102) (1 : Int32) (bif m_cmp .ne b 108 then (0 : Int32) else (1 : Int32)) (fun v8 : Int32 => UP m_X4_fitsCrew 14 [some (.int part), some (.int b)] [.int v8] s (Qi s (let v9 := bif m_cmp .eq b 115 then (1 : Int32) else (bif m_cmp .eq b 102 then (1 : Int32) else (bif m_cmp .ne b 108 then (0 : Int32) else (1 : Int32))); v9))) (fun cc kk => ?_) (fun cc kk => ?_) (fun v8 e8 => ?_)
      · skip
        refine UP.icT rfl cc ?_
        refine UP.stp 2 (i1 := 14) (L1 := [some (.int part), some (.int b)]) (st1 := [.int 1]) (s1 := s) rfl ?_
        exact kk
      · skip
        refine UP.icF rfl cc ?_
        refine UP.stp 2 (i1 := 10) (L1 := [some (.int part), some (.int b)]) (st1 := [.int 108, .int b]) (s1 := s) rfl ?_
        refine mrg (m_cmp .ne b 108) (0 : Int32) (1 : Int32) (fun v7 : Int32 => UP m_X4_fitsCrew 14 [some (.int part), some (.int b)] [.int v7] s (Qi s (let v9 := bif m_cmp .eq b 115 then (1 : Int32) else (bif m_cmp .eq b 102 then (1 : Int32) else (bif m_cmp .ne b 108 then (0 : Int32) else (1 : Int32))); v9))) (fun cc kk => ?_) (fun cc kk => ?_) (fun v7 e7 => ?_)
        · skip
          refine UP.icT rfl cc ?_
          refine UP.stp 1 (i1 := 14) (L1 := [some (.int part), some (.int b)]) (st1 := [.int 0]) (s1 := s) rfl ?_
          exact kk
        · skip
          refine UP.icF rfl cc ?_
          refine UP.stp 2 (i1 := 14) (L1 := [some (.int part), some (.int b)]) (st1 := [.int 1]) (s1 := s) rfl ?_
          exact kk
        subst e7
        exact kk
      subst e8
      exact kk
    exact UP.ret (r := some (.int v9)) rfl ⟨by subst e9; first | (dsimp only [F_fitsCrew]; done) | (dsimp only; done) | rfl, by subst e9; first | (dsimp only [F_fitsCrew]; done) | (dsimp only; done) | rfl⟩
end
section
def W_crewFault : List (Nat × Nat × Option Nat) := []
def B_crewFault_2 (s : SG) (i1 : Nat) (a1 : Unit) : (Unit) ⊕ (Int32) := bif m_cmp .ne (F_fitsCrew s ((Int32.ofNat i1) - (Int32.ofNat i1) / 3 * 3) (s 110 i1)) 0 then (.inl ()) else (.inr (Int32.ofNat i1))
def F_crewFault (s : SG)  : Int32 := Sum.elim (fun z1 : Unit => let v5 := bif m_cmp .eq (s 109 1) 0 then (-1 : Int32) else (bif m_cmp .ne ((s 109 1) - (s 109 1) / 3 * 3) 2 then s 109 1 else (-1 : Int32)); v5) (fun x : Nat × (Int32) => x.2) (itx (B_crewFault_2 s) 0 ((s 109 1).toNatClampNeg) ())
set_option maxRecDepth 20000 in
set_option maxHeartbeats 200000 in
theorem ux_crewFault (s : SG)   : UP m_X4_crewFault 0 (m_ent 2 [.ref 109]) [] s (Qi s (F_crewFault s)) := by
  refine UP.stp 2 (i1 := 2) (L1 := [some (.ref 109), some (.int 0)]) (st1 := []) (s1 := s) rfl ?_
  refine lpx (fun (i1 : Nat) (a1 : Unit) => UP m_X4_crewFault 2 [some (.ref 109), some (.int (Int32.ofNat i1))] [] s (Qi s (F_crewFault s))) (fun (_ : Nat) (b1 : Int32) => (F_crewFault s) = b1) (fun (_ : Nat) (a1 : Unit) => Fr W_crewFault s s) (B_crewFault_2 s) ((s 109 1).toNatClampNeg) (fun i1 a1 x1 hi1 g1 e => g1) (fun i1 a1 hi1 g1 kk => ?_) ((s 109 1).toNatClampNeg) (0) () (by omega) (Fr.rf _ _) (fun z1 e1 g1 => ?_) (fun i1 a1 b1 e1 hi1 g1 f1 => by have q : (F_crewFault s) = Sum.elim (fun z1 : Unit => let v5 := bif m_cmp .eq (s 109 1) 0 then (-1 : Int32) else (bif m_cmp .ne ((s 109 1) - (s 109 1) / 3 * 3) 2 then s 109 1 else (-1 : Int32)); v5) (fun x : Nat × (Int32) => x.2) (itx (B_crewFault_2 s) 0 ((s 109 1).toNatClampNeg) ()) := (by first | (dsimp only [F_crewFault]; done) | (dsimp only; done) | rfl); rw [q, e1]; first | (dsimp only [Sum.elim_inr]; done) | rfl)
  · skip
    have hbi1 := cl_lt (s 109 1)
    refine UP.stp 3 (i1 := 5) (L1 := [some (.ref 109), some (.int (Int32.ofNat i1))]) (st1 := [.int (s 109 1), .int (Int32.ofNat i1)]) (s1 := s) rfl ?_
    refine UP.icF rfl (ge_F hi1) ?_
    refine UP.stp 6 (i1 := 12) (L1 := [some (.ref 109), some (.int (Int32.ofNat i1))]) (st1 := [.int (Int32.ofNat i1), .ref 110, .int ((Int32.ofNat i1) - (Int32.ofNat i1) / 3 * 3)]) (s1 := s) rfl ?_
    refine UP.ald (e := i1) rfl rfl (by omega) ?_
    show UP m_X4_crewFault 13 [some (.ref 109), some (.int (Int32.ofNat i1))] [.int (s 110 i1), .int ((Int32.ofNat i1) - (Int32.ofNat i1) / 3 * 3)] s (Qi s (F_crewFault s))
    refine UP.cI (M1 := m_X4_fitsCrew) (as := [.int ((Int32.ofNat i1) - (Int32.ofNat i1) / 3 * 3), .int (s 110 i1)]) (rest := []) (T := F_fitsCrew s ((Int32.ofNat i1) - (Int32.ofNat i1) / 3 * 3) (s 110 i1)) rfl rfl (ux_fitsCrew s ((Int32.ofNat i1) - (Int32.ofNat i1) / 3 * 3) (s 110 i1)) ?_
    refine brk (K := (Kx (fun (i1 : Nat) (a1 : Unit) => UP m_X4_crewFault 2 [some (.ref 109), some (.int (Int32.ofNat i1))] [] s (Qi s (F_crewFault s))) (fun (_ : Nat) (b1 : Int32) => (F_crewFault s) = b1) i1)) (m_cmp .ne (F_fitsCrew s ((Int32.ofNat i1) - (Int32.ofNat i1) / 3 * 3) (s 110 i1)) 0) (.inl ()) (.inr (Int32.ofNat i1)) (by (try dsimp only [B_crewFault_2] at kk ⊢); exact kk) (fun cc kk => ?_) (fun cc kk => ?_)
    · skip
      refine UP.ifT rfl cc ?_
      refine UP.stp 2 (i1 := 2) (L1 := [some (.ref 109), some (.int ((Int32.ofNat i1) + 1))]) (st1 := []) (s1 := s) rfl ?_
      rw [ofn_s]
      exact kk
    · skip
      refine UP.ifF rfl cc ?_
      refine UP.stp 1 (i1 := 16) (L1 := [some (.ref 109), some (.int (Int32.ofNat i1))]) (st1 := [.int (Int32.ofNat i1)]) (s1 := s) rfl ?_
      have kk : (F_crewFault s) = Int32.ofNat i1 := by exact kk
      exact UP.ret (r := some (.int (Int32.ofNat i1))) rfl ⟨by rw [kk], rfl⟩
  · skip
    refine UP.eqT (let v5 := bif m_cmp .eq (s 109 1) 0 then (-1 : Int32) else (bif m_cmp .ne ((s 109 1) - (s 109 1) / 3 * 3) 2 then s 109 1 else (-1 : Int32)); v5) (by have q : (F_crewFault s) = Sum.elim (fun z1 : Unit => let v5 := bif m_cmp .eq (s 109 1) 0 then (-1 : Int32) else (bif m_cmp .ne ((s 109 1) - (s 109 1) / 3 * 3) 2 then s 109 1 else (-1 : Int32)); v5) (fun x : Nat × (Int32) => x.2) (itx (B_crewFault_2 s) 0 ((s 109 1).toNatClampNeg) ()) := (by first | (dsimp only [F_crewFault]; done) | (dsimp only; done) | rfl); rw [q, e1]; first | (dsimp only [Sum.elim_inl]; done) | rfl) ?_
    refine UP.stp 3 (i1 := 5) (L1 := [some (.ref 109), some (.int (Int32.ofNat ((s 109 1).toNatClampNeg)))]) (st1 := [.int (s 109 1), .int (Int32.ofNat ((s 109 1).toNatClampNeg))]) (s1 := s) rfl ?_
    refine UP.icT rfl (ge_T _) ?_
    refine UP.stp 2 (i1 := 21) (L1 := [some (.ref 109), some (.int (Int32.ofNat ((s 109 1).toNatClampNeg)))]) (st1 := [.int (s 109 1)]) (s1 := s) rfl ?_
    refine mrg (m_cmp .eq (s 109 1) 0) (-1 : Int32) (bif m_cmp .ne ((s 109 1) - (s 109 1) / 3 * 3) 2 then s 109 1 else (-1 : Int32)) (fun v5 : Int32 => UP m_X4_crewFault 32 [some (.ref 109), some (.int (Int32.ofNat ((s 109 1).toNatClampNeg)))] [.int v5] s (Qi s (let v5 := bif m_cmp .eq (s 109 1) 0 then (-1 : Int32) else (bif m_cmp .ne ((s 109 1) - (s 109 1) / 3 * 3) 2 then s 109 1 else (-1 : Int32)); v5))) (fun cc kk => ?_) (fun cc kk => ?_) (fun v5 e5 => ?_)
    · skip
      refine UP.ifT rfl cc ?_
      refine UP.stp 2 (i1 := 32) (L1 := [some (.ref 109), some (.int (Int32.ofNat ((s 109 1).toNatClampNeg)))]) (st1 := [.int (-1)]) (s1 := s) rfl ?_
      exact kk
    · skip
      refine UP.ifF rfl cc ?_
      refine UP.stp 5 (i1 := 27) (L1 := [some (.ref 109), some (.int (Int32.ofNat ((s 109 1).toNatClampNeg)))]) (st1 := [.int 2, .int ((s 109 1) - (s 109 1) / 3 * 3)]) (s1 := s) rfl ?_
      refine mrg (m_cmp .ne ((s 109 1) - (s 109 1) / 3 * 3) 2) (s 109 1) (-1 : Int32) (fun v4 : Int32 => UP m_X4_crewFault 32 [some (.ref 109), some (.int (Int32.ofNat ((s 109 1).toNatClampNeg)))] [.int v4] s (Qi s (let v5 := bif m_cmp .eq (s 109 1) 0 then (-1 : Int32) else (bif m_cmp .ne ((s 109 1) - (s 109 1) / 3 * 3) 2 then s 109 1 else (-1 : Int32)); v5))) (fun cc kk => ?_) (fun cc kk => ?_) (fun v4 e4 => ?_)
      · skip
        refine UP.icT rfl cc ?_
        refine UP.stp 2 (i1 := 32) (L1 := [some (.ref 109), some (.int (Int32.ofNat ((s 109 1).toNatClampNeg)))]) (st1 := [.int (s 109 1)]) (s1 := s) rfl ?_
        exact kk
      · skip
        refine UP.icF rfl cc ?_
        refine UP.stp 2 (i1 := 32) (L1 := [some (.ref 109), some (.int (Int32.ofNat ((s 109 1).toNatClampNeg)))]) (st1 := [.int (-1)]) (s1 := s) rfl ?_
        exact kk
      subst e4
      exact kk
    exact UP.ret (r := some (.int v5)) rfl ⟨by subst e5; first | (dsimp only [F_crewFault]; done) | (dsimp only; done) | rfl, by subst e5; first | (dsimp only [F_crewFault]; done) | (dsimp only; done) | rfl⟩
end
