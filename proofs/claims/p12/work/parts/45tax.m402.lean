def W_event : List (Nat × Nat × Option Nat) := [(130, 132, none), (123, 123, some 11)]
def F_event (s : SG) (kind : Int32) (minute : Int32) (number : Int32) : Int32 × SG := bif m_cmp .eq (F_isThree s kind) 0 then (((-2), s)) else (bif m_cmp .eq (F_isMinute s minute) 0 then (((-2), s)) else (bif m_cmp .ne (F_isEight s number) 0 then (bif m_cmp .ne (s 123 11) 8 then (let v12 := (s 123 11) + 1; (v12, (uset (uset (uset (uset s 130 ((s 123 11).toNatClampNeg) kind) 131 ((s 123 11).toNatClampNeg) minute) 132 ((s 123 11).toNatClampNeg) number) 123 11 v12))) else (((-4), s))) else (((-2), s))))
theorem fr_event (s : SG) (kind : Int32) (minute : Int32) (number : Int32)  : Fr W_event s (F_event s kind minute number).2 := by dsimp only [F_event]; exact (Fr.bifp (b := m_cmp .eq (F_isThree s kind) 0) (x := ((-2), s)) (y := bif m_cmp .eq (F_isMinute s minute) 0 then (((-2), s)) else (bif m_cmp .ne (F_isEight s number) 0 then (bif m_cmp .ne (s 123 11) 8 then (let v12 := (s 123 11) + 1; (v12, (uset (uset (uset (uset s 130 ((s 123 11).toNatClampNeg) kind) 131 ((s 123 11).toNatClampNeg) minute) 132 ((s 123 11).toNatClampNeg) number) 123 11 v12))) else (((-4), s))) else (((-2), s)))) (fun x : Int32 × SG => x.2) (Fr.rf _ _) (Fr.bifp (b := m_cmp .eq (F_isMinute s minute) 0) (x := ((-2), s)) (y := bif m_cmp .ne (F_isEight s number) 0 then (bif m_cmp .ne (s 123 11) 8 then (let v12 := (s 123 11) + 1; (v12, (uset (uset (uset (uset s 130 ((s 123 11).toNatClampNeg) kind) 131 ((s 123 11).toNatClampNeg) minute) 132 ((s 123 11).toNatClampNeg) number) 123 11 v12))) else (((-4), s))) else (((-2), s))) (fun x : Int32 × SG => x.2) (Fr.rf _ _) (Fr.bifp (b := m_cmp .ne (F_isEight s number) 0) (x := bif m_cmp .ne (s 123 11) 8 then (let v12 := (s 123 11) + 1; (v12, (uset (uset (uset (uset s 130 ((s 123 11).toNatClampNeg) kind) 131 ((s 123 11).toNatClampNeg) minute) 132 ((s 123 11).toNatClampNeg) number) 123 11 v12))) else (((-4), s))) (y := ((-2), s)) (fun x : Int32 × SG => x.2) (Fr.bifp (b := m_cmp .ne (s 123 11) 8) (x := let v12 := (s 123 11) + 1; (v12, (uset (uset (uset (uset s 130 ((s 123 11).toNatClampNeg) kind) 131 ((s 123 11).toNatClampNeg) minute) 132 ((s 123 11).toNatClampNeg) number) 123 11 v12))) (y := ((-4), s)) (fun x : Int32 × SG => x.2) (let v12 : Int32 := (s 123 11) + 1; (Fr.uset (s1 := (uset (uset (uset s 130 ((s 123 11).toNatClampNeg) kind) 131 ((s 123 11).toNatClampNeg) minute) 132 ((s 123 11).toNatClampNeg) number)) (a := 123) (j := 11) (x := v12) (by rfl) (Fr.uset (s1 := (uset (uset s 130 ((s 123 11).toNatClampNeg) kind) 131 ((s 123 11).toNatClampNeg) minute)) (a := 132) (j := (s 123 11).toNatClampNeg) (x := number) (by rfl) (Fr.uset (s1 := (uset s 130 ((s 123 11).toNatClampNeg) kind)) (a := 131) (j := (s 123 11).toNatClampNeg) (x := minute) (by rfl) (Fr.uset (s1 := s) (a := 130) (j := (s 123 11).toNatClampNeg) (x := kind) (by rfl) (Fr.rf _ _)))))) (Fr.rf _ _)) (Fr.rf _ _))))
theorem ux_event (s : SG) (kind : Int32) (minute : Int32) (number : Int32)  : UP m_X7_event 0 (m_ent 4 [.ref 123, .int kind, .int minute, .int number]) [] s (Qb (F_event s kind minute number)) := by
  refine UP.stp 1 (i1 := 1) (L1 := [some (.ref 123), some (.int kind), some (.int minute), some (.int number)]) (st1 := [.int kind]) (s1 := s) rfl ?_
  refine UP.cI (M1 := m_X7_isThree) (as := [.int kind]) (rest := []) (T := F_isThree s kind) rfl rfl (ux_isThree s kind) ?_
  refine UP.spl (m_cmp .eq (F_isThree s kind) 0) (((-2), s)) (bif m_cmp .eq (F_isMinute s minute) 0 then (((-2), s)) else (bif m_cmp .ne (F_isEight s number) 0 then (bif m_cmp .ne (s 123 11) 8 then (let v12 := (s 123 11) + 1; (v12, (uset (uset (uset (uset s 130 ((s 123 11).toNatClampNeg) kind) 131 ((s 123 11).toNatClampNeg) minute) 132 ((s 123 11).toNatClampNeg) number) 123 11 v12))) else (((-4), s))) else (((-2), s)))) (by rfl) (fun cc => ?_) (fun cc => ?_)
  · skip
    refine UP.ifT rfl cc ?_
    refine UP.stp 1 (i1 := 10) (L1 := [some (.ref 123), some (.int kind), some (.int minute), some (.int number)]) (st1 := [.int (-2)]) (s1 := s) rfl ?_
    exact UP.ret (r := some (.int (-2))) rfl ⟨by rfl, by rfl⟩
  · skip
    refine UP.ifF rfl cc ?_
    refine UP.stp 1 (i1 := 4) (L1 := [some (.ref 123), some (.int kind), some (.int minute), some (.int number)]) (st1 := [.int minute]) (s1 := s) rfl ?_
    refine UP.cI (M1 := m_X7_isMinute) (as := [.int minute]) (rest := []) (T := F_isMinute s minute) rfl rfl (ux_isMinute s minute) ?_
    refine UP.spl (m_cmp .eq (F_isMinute s minute) 0) (((-2), s)) (bif m_cmp .ne (F_isEight s number) 0 then (bif m_cmp .ne (s 123 11) 8 then (let v12 := (s 123 11) + 1; (v12, (uset (uset (uset (uset s 130 ((s 123 11).toNatClampNeg) kind) 131 ((s 123 11).toNatClampNeg) minute) 132 ((s 123 11).toNatClampNeg) number) 123 11 v12))) else (((-4), s))) else (((-2), s))) (by rfl) (fun cc => ?_) (fun cc => ?_)
    · skip
      refine UP.ifT rfl cc ?_
      refine UP.stp 1 (i1 := 10) (L1 := [some (.ref 123), some (.int kind), some (.int minute), some (.int number)]) (st1 := [.int (-2)]) (s1 := s) rfl ?_
      exact UP.ret (r := some (.int (-2))) rfl ⟨by rfl, by rfl⟩
    · skip
      refine UP.ifF rfl cc ?_
      refine UP.stp 1 (i1 := 7) (L1 := [some (.ref 123), some (.int kind), some (.int minute), some (.int number)]) (st1 := [.int number]) (s1 := s) rfl ?_
      refine UP.cI (M1 := m_X7_isEight) (as := [.int number]) (rest := []) (T := F_isEight s number) rfl rfl (ux_isEight s number) ?_
      refine UP.spl (m_cmp .ne (F_isEight s number) 0) (bif m_cmp .ne (s 123 11) 8 then (let v12 := (s 123 11) + 1; (v12, (uset (uset (uset (uset s 130 ((s 123 11).toNatClampNeg) kind) 131 ((s 123 11).toNatClampNeg) minute) 132 ((s 123 11).toNatClampNeg) number) 123 11 v12))) else (((-4), s))) (((-2), s)) (by rfl) (fun cc => ?_) (fun cc => ?_)
      · skip
        refine UP.ifT rfl cc ?_
        refine UP.stp 3 (i1 := 14) (L1 := [some (.ref 123), some (.int kind), some (.int minute), some (.int number)]) (st1 := [.int 8, .int (s 123 11)]) (s1 := s) rfl ?_
        refine UP.spl (m_cmp .ne (s 123 11) 8) (let v12 := (s 123 11) + 1; (v12, (uset (uset (uset (uset s 130 ((s 123 11).toNatClampNeg) kind) 131 ((s 123 11).toNatClampNeg) minute) 132 ((s 123 11).toNatClampNeg) number) 123 11 v12))) (((-4), s)) (by rfl) (fun cc => ?_) (fun cc => ?_)
        · skip
          refine UP.icT rfl cc ?_
          refine UP.stp 23 (i1 := 40) (L1 := [some (.ref 123), some (.int kind), some (.int minute), some (.int number)]) (st1 := [.int ((s 123 11) + 1), .ref 123]) (s1 := (uset (uset (uset s 130 ((s 123 11).toNatClampNeg) kind) 131 ((s 123 11).toNatClampNeg) minute) 132 ((s 123 11).toNatClampNeg) number)) rfl ?_
          refine nm (G := fun v12 => UP m_X7_event 40 [some (.ref 123), some (.int kind), some (.int minute), some (.int number)] [.int v12, .ref 123] (uset (uset (uset s 130 ((s 123 11).toNatClampNeg) kind) 131 ((s 123 11).toNatClampNeg) minute) 132 ((s 123 11).toNatClampNeg) number) (Qb (let v12 := (s 123 11) + 1; (v12, (uset (uset (uset (uset s 130 ((s 123 11).toNatClampNeg) kind) 131 ((s 123 11).toNatClampNeg) minute) 132 ((s 123 11).toNatClampNeg) number) 123 11 v12))))) ((s 123 11) + 1) (fun v12 e12 => ?_)
          refine UP.stp 3 (i1 := 43) (L1 := [some (.ref 123), some (.int kind), some (.int minute), some (.int number)]) (st1 := [.int v12]) (s1 := (uset (uset (uset (uset s 130 ((s 123 11).toNatClampNeg) kind) 131 ((s 123 11).toNatClampNeg) minute) 132 ((s 123 11).toNatClampNeg) number) 123 11 v12)) rfl ?_
          exact UP.ret (r := some (.int v12)) rfl ⟨by subst e12; rfl, by subst e12; rfl⟩
        · skip
          refine UP.icF rfl cc ?_
          refine UP.stp 1 (i1 := 16) (L1 := [some (.ref 123), some (.int kind), some (.int minute), some (.int number)]) (st1 := [.int (-4)]) (s1 := s) rfl ?_
          exact UP.ret (r := some (.int (-4))) rfl ⟨by rfl, by rfl⟩
      · skip
        refine UP.ifF rfl cc ?_
        refine UP.stp 1 (i1 := 10) (L1 := [some (.ref 123), some (.int kind), some (.int minute), some (.int number)]) (st1 := [.int (-2)]) (s1 := s) rfl ?_
        exact UP.ret (r := some (.int (-2))) rfl ⟨by rfl, by rfl⟩
def W_back : List (Nat × Nat × Option Nat) := [(123, 123, some 11)]
def F_back (s : SG)  : Int32 × SG := bif m_cmp .ne (s 123 11) 0 then (let v3 := (s 123 11) - 1; (v3, (uset s 123 11 v3))) else (((-3), s))
theorem fr_back (s : SG)   : Fr W_back s (F_back s).2 := by dsimp only [F_back]; exact (Fr.bifp (b := m_cmp .ne (s 123 11) 0) (x := let v3 := (s 123 11) - 1; (v3, (uset s 123 11 v3))) (y := ((-3), s)) (fun x : Int32 × SG => x.2) (let v3 : Int32 := (s 123 11) - 1; (Fr.uset (s1 := s) (a := 123) (j := 11) (x := v3) (by rfl) (Fr.rf _ _))) (Fr.rf _ _))
theorem ux_back (s : SG)   : UP m_X7_back 0 (m_ent 1 [.ref 123]) [] s (Qb (F_back s)) := by
  refine UP.stp 2 (i1 := 2) (L1 := [some (.ref 123)]) (st1 := [.int (s 123 11)]) (s1 := s) rfl ?_
  refine UP.spl (m_cmp .ne (s 123 11) 0) (let v3 := (s 123 11) - 1; (v3, (uset s 123 11 v3))) (((-3), s)) (by rfl) (fun cc => ?_) (fun cc => ?_)
  · skip
    refine UP.ifT rfl cc ?_
    refine UP.stp 5 (i1 := 10) (L1 := [some (.ref 123)]) (st1 := [.int ((s 123 11) - 1), .ref 123]) (s1 := s) rfl ?_
    refine nm (G := fun v3 => UP m_X7_back 10 [some (.ref 123)] [.int v3, .ref 123] s (Qb (let v3 := (s 123 11) - 1; (v3, (uset s 123 11 v3))))) ((s 123 11) - 1) (fun v3 e3 => ?_)
    refine UP.stp 3 (i1 := 13) (L1 := [some (.ref 123)]) (st1 := [.int v3]) (s1 := (uset s 123 11 v3)) rfl ?_
    exact UP.ret (r := some (.int v3)) rfl ⟨by subst e3; rfl, by subst e3; rfl⟩
  · skip
    refine UP.ifF rfl cc ?_
    refine UP.stp 1 (i1 := 4) (L1 := [some (.ref 123)]) (st1 := [.int (-3)]) (s1 := s) rfl ?_
    exact UP.ret (r := some (.int (-3))) rfl ⟨by rfl, by rfl⟩
def W_seen : List (Nat × Nat × Option Nat) := [(145, 146, none), (123, 123, some 37)]
def F_seen (s : SG) (minute : Int32) (place : Int32) : Int32 × SG := bif m_cmp .eq (F_isMinute s minute) 0 then (((-2), s)) else (bif m_cmp .ne (F_in s place 0 20) 0 then (bif m_cmp .ne (s 123 37) 8 then (let v9 := (s 123 37) + 1; (v9, (uset (uset (uset s 145 ((s 123 37).toNatClampNeg) minute) 146 ((s 123 37).toNatClampNeg) place) 123 37 v9))) else (((-4), s))) else (((-2), s)))
theorem fr_seen (s : SG) (minute : Int32) (place : Int32)  : Fr W_seen s (F_seen s minute place).2 := by dsimp only [F_seen]; exact (Fr.bifp (b := m_cmp .eq (F_isMinute s minute) 0) (x := ((-2), s)) (y := bif m_cmp .ne (F_in s place 0 20) 0 then (bif m_cmp .ne (s 123 37) 8 then (let v9 := (s 123 37) + 1; (v9, (uset (uset (uset s 145 ((s 123 37).toNatClampNeg) minute) 146 ((s 123 37).toNatClampNeg) place) 123 37 v9))) else (((-4), s))) else (((-2), s))) (fun x : Int32 × SG => x.2) (Fr.rf _ _) (Fr.bifp (b := m_cmp .ne (F_in s place 0 20) 0) (x := bif m_cmp .ne (s 123 37) 8 then (let v9 := (s 123 37) + 1; (v9, (uset (uset (uset s 145 ((s 123 37).toNatClampNeg) minute) 146 ((s 123 37).toNatClampNeg) place) 123 37 v9))) else (((-4), s))) (y := ((-2), s)) (fun x : Int32 × SG => x.2) (Fr.bifp (b := m_cmp .ne (s 123 37) 8) (x := let v9 := (s 123 37) + 1; (v9, (uset (uset (uset s 145 ((s 123 37).toNatClampNeg) minute) 146 ((s 123 37).toNatClampNeg) place) 123 37 v9))) (y := ((-4), s)) (fun x : Int32 × SG => x.2) (let v9 : Int32 := (s 123 37) + 1; (Fr.uset (s1 := (uset (uset s 145 ((s 123 37).toNatClampNeg) minute) 146 ((s 123 37).toNatClampNeg) place)) (a := 123) (j := 37) (x := v9) (by rfl) (Fr.uset (s1 := (uset s 145 ((s 123 37).toNatClampNeg) minute)) (a := 146) (j := (s 123 37).toNatClampNeg) (x := place) (by rfl) (Fr.uset (s1 := s) (a := 145) (j := (s 123 37).toNatClampNeg) (x := minute) (by rfl) (Fr.rf _ _))))) (Fr.rf _ _)) (Fr.rf _ _)))
theorem ux_seen (s : SG) (minute : Int32) (place : Int32)  : UP m_X7_seen 0 (m_ent 3 [.ref 123, .int minute, .int place]) [] s (Qb (F_seen s minute place)) := by
  refine UP.stp 1 (i1 := 1) (L1 := [some (.ref 123), some (.int minute), some (.int place)]) (st1 := [.int minute]) (s1 := s) rfl ?_
  refine UP.cI (M1 := m_X7_isMinute) (as := [.int minute]) (rest := []) (T := F_isMinute s minute) rfl rfl (ux_isMinute s minute) ?_
  refine UP.spl (m_cmp .eq (F_isMinute s minute) 0) (((-2), s)) (bif m_cmp .ne (F_in s place 0 20) 0 then (bif m_cmp .ne (s 123 37) 8 then (let v9 := (s 123 37) + 1; (v9, (uset (uset (uset s 145 ((s 123 37).toNatClampNeg) minute) 146 ((s 123 37).toNatClampNeg) place) 123 37 v9))) else (((-4), s))) else (((-2), s))) (by rfl) (fun cc => ?_) (fun cc => ?_)
  · skip
    refine UP.ifT rfl cc ?_
    refine UP.stp 1 (i1 := 9) (L1 := [some (.ref 123), some (.int minute), some (.int place)]) (st1 := [.int (-2)]) (s1 := s) rfl ?_
    exact UP.ret (r := some (.int (-2))) rfl ⟨by rfl, by rfl⟩
  · skip
    refine UP.ifF rfl cc ?_
    refine UP.stp 3 (i1 := 6) (L1 := [some (.ref 123), some (.int minute), some (.int place)]) (st1 := [.int 20, .int 0, .int place]) (s1 := s) rfl ?_
    refine UP.cI (M1 := m_X7_in) (as := [.int place, .int 0, .int 20]) (rest := []) (T := F_in s place 0 20) rfl rfl (ux_in s place 0 20) ?_
    refine UP.spl (m_cmp .ne (F_in s place 0 20) 0) (bif m_cmp .ne (s 123 37) 8 then (let v9 := (s 123 37) + 1; (v9, (uset (uset (uset s 145 ((s 123 37).toNatClampNeg) minute) 146 ((s 123 37).toNatClampNeg) place) 123 37 v9))) else (((-4), s))) (((-2), s)) (by rfl) (fun cc => ?_) (fun cc => ?_)
    · skip
      refine UP.ifT rfl cc ?_
      refine UP.stp 3 (i1 := 13) (L1 := [some (.ref 123), some (.int minute), some (.int place)]) (st1 := [.int 8, .int (s 123 37)]) (s1 := s) rfl ?_
      refine UP.spl (m_cmp .ne (s 123 37) 8) (let v9 := (s 123 37) + 1; (v9, (uset (uset (uset s 145 ((s 123 37).toNatClampNeg) minute) 146 ((s 123 37).toNatClampNeg) place) 123 37 v9))) (((-4), s)) (by rfl) (fun cc => ?_) (fun cc => ?_)
      · skip
        refine UP.icT rfl cc ?_
        refine UP.stp 17 (i1 := 33) (L1 := [some (.ref 123), some (.int minute), some (.int place)]) (st1 := [.int ((s 123 37) + 1), .ref 123]) (s1 := (uset (uset s 145 ((s 123 37).toNatClampNeg) minute) 146 ((s 123 37).toNatClampNeg) place)) rfl ?_
        refine nm (G := fun v9 => UP m_X7_seen 33 [some (.ref 123), some (.int minute), some (.int place)] [.int v9, .ref 123] (uset (uset s 145 ((s 123 37).toNatClampNeg) minute) 146 ((s 123 37).toNatClampNeg) place) (Qb (let v9 := (s 123 37) + 1; (v9, (uset (uset (uset s 145 ((s 123 37).toNatClampNeg) minute) 146 ((s 123 37).toNatClampNeg) place) 123 37 v9))))) ((s 123 37) + 1) (fun v9 e9 => ?_)
        refine UP.stp 3 (i1 := 36) (L1 := [some (.ref 123), some (.int minute), some (.int place)]) (st1 := [.int v9]) (s1 := (uset (uset (uset s 145 ((s 123 37).toNatClampNeg) minute) 146 ((s 123 37).toNatClampNeg) place) 123 37 v9)) rfl ?_
        exact UP.ret (r := some (.int v9)) rfl ⟨by subst e9; rfl, by subst e9; rfl⟩
      · skip
        refine UP.icF rfl cc ?_
        refine UP.stp 1 (i1 := 15) (L1 := [some (.ref 123), some (.int minute), some (.int place)]) (st1 := [.int (-4)]) (s1 := s) rfl ?_
        exact UP.ret (r := some (.int (-4))) rfl ⟨by rfl, by rfl⟩
    · skip
      refine UP.ifF rfl cc ?_
      refine UP.stp 1 (i1 := 9) (L1 := [some (.ref 123), some (.int minute), some (.int place)]) (st1 := [.int (-2)]) (s1 := s) rfl ?_
      exact UP.ret (r := some (.int (-2))) rfl ⟨by rfl, by rfl⟩
def W_forget : List (Nat × Nat × Option Nat) := [(123, 123, some 37)]
def F_forget (s : SG)  : Int32 × SG := let v1 := s 123 37; (v1, (uset s 123 37 0))
theorem fr_forget (s : SG)   : Fr W_forget s (F_forget s).2 := by dsimp only [F_forget]; exact (Fr.uset (s1 := s) (a := 123) (j := 37) (x := 0) (by rfl) (Fr.rf _ _))
theorem ux_forget (s : SG)   : UP m_X7_forget 0 (m_ent 2 [.ref 123]) [] s (Qb (F_forget s)) := by
  refine UP.stp 2 (i1 := 2) (L1 := [some (.ref 123), none]) (st1 := [.int (s 123 37)]) (s1 := s) rfl ?_
  refine nm (G := fun v1 => UP m_X7_forget 2 [some (.ref 123), none] [.int v1] s (Qb (F_forget s))) (s 123 37) (fun v1 e1 => ?_)
  refine UP.stp 5 (i1 := 7) (L1 := [some (.ref 123), some (.int v1)]) (st1 := [.int v1]) (s1 := (uset s 123 37 0)) rfl ?_
  exact UP.ret (r := some (.int v1)) rfl ⟨by subst e1; rfl, by subst e1; rfl⟩
def W_sheet : List (Nat × Nat × Option Nat) := [(148, 151, none), (123, 123, some 46)]
def B_sheet_36 (s_ : Int32) (i11 : Nat) (a11 : SG) : SG := (uset a11 151 (((60 * s_) + (Int32.ofNat i11)).toNatClampNeg) 0)
theorem fr_B_sheet_36 (s_ : Int32) (i11 : Nat) (a11 : SG)  (hi11 : i11 < 60) : Fr W_sheet a11 ((B_sheet_36 s_) i11 a11) := by dsimp only [B_sheet_36]; exact (Fr.uset (s1 := a11) (a := 151) (j := ((60 * s_) + (Int32.ofNat i11)).toNatClampNeg) (x := 0) (by rfl) (Fr.rf _ _))
def F_sheet (s : SG) (s_ : Int32) (form : Int32) (n : Int32) : Int32 × SG := bif m_cmp .eq (F_isSheet s s_) 0 then (((-2), s)) else (bif m_cmp .eq (F_in s form 0 2) 0 then (((-2), s)) else (bif m_cmp .le n 60 then (bif m_cmp .ge n 0 then (let z11 := itr (B_sheet_36 s_) 0 60 (uset (uset (uset s 148 s_.toNatClampNeg 1) 149 s_.toNatClampNeg form) 150 s_.toNatClampNeg n); (n, z11)) else (let z12 := F_meets s 5; z12)) else (((-2), s))))
theorem fr_sheet (s : SG) (s_ : Int32) (form : Int32) (n : Int32)  : Fr W_sheet s (F_sheet s s_ form n).2 := by dsimp only [F_sheet]; exact (Fr.bifp (b := m_cmp .eq (F_isSheet s s_) 0) (x := ((-2), s)) (y := bif m_cmp .eq (F_in s form 0 2) 0 then (((-2), s)) else (bif m_cmp .le n 60 then (bif m_cmp .ge n 0 then (let z11 := itr (B_sheet_36 s_) 0 60 (uset (uset (uset s 148 s_.toNatClampNeg 1) 149 s_.toNatClampNeg form) 150 s_.toNatClampNeg n); (n, z11)) else (let z12 := F_meets s 5; z12)) else (((-2), s)))) (fun x : Int32 × SG => x.2) (Fr.rf _ _) (Fr.bifp (b := m_cmp .eq (F_in s form 0 2) 0) (x := ((-2), s)) (y := bif m_cmp .le n 60 then (bif m_cmp .ge n 0 then (let z11 := itr (B_sheet_36 s_) 0 60 (uset (uset (uset s 148 s_.toNatClampNeg 1) 149 s_.toNatClampNeg form) 150 s_.toNatClampNeg n); (n, z11)) else (let z12 := F_meets s 5; z12)) else (((-2), s))) (fun x : Int32 × SG => x.2) (Fr.rf _ _) (Fr.bifp (b := m_cmp .le n 60) (x := bif m_cmp .ge n 0 then (let z11 := itr (B_sheet_36 s_) 0 60 (uset (uset (uset s 148 s_.toNatClampNeg 1) 149 s_.toNatClampNeg form) 150 s_.toNatClampNeg n); (n, z11)) else (let z12 := F_meets s 5; z12)) (y := ((-2), s)) (fun x : Int32 × SG => x.2) (Fr.bifp (b := m_cmp .ge n 0) (x := let z11 := itr (B_sheet_36 s_) 0 60 (uset (uset (uset s 148 s_.toNatClampNeg 1) 149 s_.toNatClampNeg form) 150 s_.toNatClampNeg n); (n, z11)) (y := let z12 := F_meets s 5; z12) (fun x : Int32 × SG => x.2) (frItrB (W := W_sheet) (m := (fun x : SG => x)) 60 (fun i a h => Fr.wk (W2 := W_sheet) (fr_B_sheet_36 s_ i a  h) (by rfl)) _ _ _ (by omega) (Fr.uset (s1 := (uset (uset s 148 s_.toNatClampNeg 1) 149 s_.toNatClampNeg form)) (a := 150) (j := s_.toNatClampNeg) (x := n) (by rfl) (Fr.uset (s1 := (uset s 148 s_.toNatClampNeg 1)) (a := 149) (j := s_.toNatClampNeg) (x := form) (by rfl) (Fr.uset (s1 := s) (a := 148) (j := s_.toNatClampNeg) (x := 1) (by rfl) (Fr.rf _ _))))) (Fr.tr (s1 := s) (Fr.rf _ _) (Fr.wk (W2 := W_sheet) (fr_meets s 5) (by rfl)))) (Fr.rf _ _))))
theorem ux_sheet (s : SG) (s_ : Int32) (form : Int32) (n : Int32)  : UP m_X7_sheet 0 (m_ent 5 [.ref 123, .int s_, .int form, .int n]) [] s (Qb (F_sheet s s_ form n)) := by
  refine UP.stp 1 (i1 := 1) (L1 := [some (.ref 123), some (.int s_), some (.int form), some (.int n), none]) (st1 := [.int s_]) (s1 := s) rfl ?_
  refine UP.cI (M1 := m_X7_isSheet) (as := [.int s_]) (rest := []) (T := F_isSheet s s_) rfl rfl (ux_isSheet s s_) ?_
  refine UP.spl (m_cmp .eq (F_isSheet s s_) 0) (((-2), s)) (bif m_cmp .eq (F_in s form 0 2) 0 then (((-2), s)) else (bif m_cmp .le n 60 then (bif m_cmp .ge n 0 then (let z11 := itr (B_sheet_36 s_) 0 60 (uset (uset (uset s 148 s_.toNatClampNeg 1) 149 s_.toNatClampNeg form) 150 s_.toNatClampNeg n); (n, z11)) else (let z12 := F_meets s 5; z12)) else (((-2), s)))) (by rfl) (fun cc => ?_) (fun cc => ?_)
  · skip
    refine UP.ifT rfl cc ?_
    refine UP.stp 1 (i1 := 12) (L1 := [some (.ref 123), some (.int s_), some (.int form), some (.int n), none]) (st1 := [.int (-2)]) (s1 := s) rfl ?_
    exact UP.ret (r := some (.int (-2))) rfl ⟨by rfl, by rfl⟩
  · skip
    refine UP.ifF rfl cc ?_
    refine UP.stp 3 (i1 := 6) (L1 := [some (.ref 123), some (.int s_), some (.int form), some (.int n), none]) (st1 := [.int 2, .int 0, .int form]) (s1 := s) rfl ?_
    refine UP.cI (M1 := m_X7_in) (as := [.int form, .int 0, .int 2]) (rest := []) (T := F_in s form 0 2) rfl rfl (ux_in s form 0 2) ?_
    refine UP.spl (m_cmp .eq (F_in s form 0 2) 0) (((-2), s)) (bif m_cmp .le n 60 then (bif m_cmp .ge n 0 then (let z11 := itr (B_sheet_36 s_) 0 60 (uset (uset (uset s 148 s_.toNatClampNeg 1) 149 s_.toNatClampNeg form) 150 s_.toNatClampNeg n); (n, z11)) else (let z12 := F_meets s 5; z12)) else (((-2), s))) (by rfl) (fun cc => ?_) (fun cc => ?_)
    · skip
      refine UP.ifT rfl cc ?_
      refine UP.stp 1 (i1 := 12) (L1 := [some (.ref 123), some (.int s_), some (.int form), some (.int n), none]) (st1 := [.int (-2)]) (s1 := s) rfl ?_
      exact UP.ret (r := some (.int (-2))) rfl ⟨by rfl, by rfl⟩
    · skip
      refine UP.ifF rfl cc ?_
      refine UP.stp 2 (i1 := 10) (L1 := [some (.ref 123), some (.int s_), some (.int form), some (.int n), none]) (st1 := [.int 60, .int n]) (s1 := s) rfl ?_
      refine UP.spl (m_cmp .le n 60) (bif m_cmp .ge n 0 then (let z11 := itr (B_sheet_36 s_) 0 60 (uset (uset (uset s 148 s_.toNatClampNeg 1) 149 s_.toNatClampNeg form) 150 s_.toNatClampNeg n); (n, z11)) else (let z12 := F_meets s 5; z12)) (((-2), s)) (by rfl) (fun cc => ?_) (fun cc => ?_)
      · skip
        refine UP.icT rfl cc ?_
        refine UP.stp 1 (i1 := 14) (L1 := [some (.ref 123), some (.int s_), some (.int form), some (.int n), none]) (st1 := [.int n]) (s1 := s) rfl ?_
        refine UP.spl (m_cmp .ge n 0) (let z11 := itr (B_sheet_36 s_) 0 60 (uset (uset (uset s 148 s_.toNatClampNeg 1) 149 s_.toNatClampNeg form) 150 s_.toNatClampNeg n); (n, z11)) (let z12 := F_meets s 5; z12) (by rfl) (fun cc => ?_) (fun cc => ?_)
        · skip
          refine UP.ifT rfl cc ?_
          refine UP.stp 17 (i1 := 36) (L1 := [some (.ref 123), some (.int s_), some (.int form), some (.int n), some (.int 0)]) (st1 := []) (s1 := (uset (uset (uset s 148 s_.toNatClampNeg 1) 149 s_.toNatClampNeg form) 150 s_.toNatClampNeg n)) rfl ?_
          refine lp (fun (i11 : Nat) (a11 : SG) => ∀ (u11_2 : Option Value), UP m_X7_sheet 36 [some (.ref 123), some (.int s_), u11_2, some (.int n), some (.int (Int32.ofNat i11))] [] a11 (Qb (let z11 := itr (B_sheet_36 s_) 0 60 (uset (uset (uset s 148 s_.toNatClampNeg 1) 149 s_.toNatClampNeg form) 150 s_.toNatClampNeg n); (n, z11)))) (fun (_ : Nat) (a11 : SG) => Fr W_sheet (uset (uset (uset s 148 s_.toNatClampNeg 1) 149 s_.toNatClampNeg form) 150 s_.toNatClampNeg n) a11) (B_sheet_36 s_) (60) (fun i11 a11 hi11 g11 => g11.tr (fr_B_sheet_36 s_ i11 a11 hi11)) (fun i11 a11 hi11 g11 kk => ?_) 60 (0) (uset (uset (uset s 148 s_.toNatClampNeg 1) 149 s_.toNatClampNeg form) 150 s_.toNatClampNeg n) (by omega) (Fr.rf _ _) (fun z11 e11 g11 => ?_) (some (.int form))
          · skip
            intro u11_2
            refine UP.stp 2 (i1 := 38) (L1 := [some (.ref 123), some (.int s_), u11_2, some (.int n), some (.int (Int32.ofNat i11))]) (st1 := [.int 60, .int (Int32.ofNat i11)]) (s1 := a11) rfl ?_
            refine UP.icF rfl (ge_F (show i11 < (60 : Int32).toNatClampNeg from hi11)) ?_
            refine UP.stp 11 (i1 := 36) (L1 := [some (.ref 123), some (.int s_), u11_2, some (.int n), some (.int ((Int32.ofNat i11) + 1))]) (st1 := []) (s1 := (uset a11 151 (((60 * s_) + (Int32.ofNat i11)).toNatClampNeg) 0)) rfl ?_
            rw [ofn_s]
            exact kk _
          intro u11_2
          refine UP.stp 2 (i1 := 38) (L1 := [some (.ref 123), some (.int s_), u11_2, some (.int n), some (.int (Int32.ofNat 60))]) (st1 := [.int 60, .int (Int32.ofNat 60)]) (s1 := z11) rfl ?_
          refine UP.icT rfl (ge_T (60 : Int32)) ?_
          refine UP.stp 1 (i1 := 51) (L1 := [some (.ref 123), some (.int s_), u11_2, some (.int n), some (.int (Int32.ofNat 60))]) (st1 := [.int n]) (s1 := z11) rfl ?_
          exact UP.ret (r := some (.int n)) rfl ⟨by subst e11; rfl, by subst e11; rfl⟩
        · skip
          refine UP.ifF rfl cc ?_
          refine UP.stp 2 (i1 := 17) (L1 := [some (.ref 123), some (.int s_), some (.int form), some (.int n), none]) (st1 := [.int 5, .ref 123]) (s1 := s) rfl ?_
          refine UP.cB (M1 := m_X7_meets) (as := [.ref 123, .int 5]) (rest := []) (T := F_meets s 5) rfl rfl (ux_meets s 5) (fun z12 e12 => ?_)
          exact UP.ret (r := some (.int z12.1)) rfl ⟨by subst e12; rfl, by subst e12; rfl⟩
      · skip
        refine UP.icF rfl cc ?_
        refine UP.stp 1 (i1 := 12) (L1 := [some (.ref 123), some (.int s_), some (.int form), some (.int n), none]) (st1 := [.int (-2)]) (s1 := s) rfl ?_
        exact UP.ret (r := some (.int (-2))) rfl ⟨by rfl, by rfl⟩
def W_lose : List (Nat × Nat × Option Nat) := [(148, 148, none), (123, 123, some 46)]
def F_lose (s : SG) (s_ : Int32) : Int32 × SG := bif m_cmp .ne (F_isSheet s s_) 0 then (bif m_cmp .ne (s 148 s_.toNatClampNeg) 0 then ((s 150 s_.toNatClampNeg, (uset s 148 s_.toNatClampNeg 0))) else (let z6 := F_meets s 1; z6)) else (((-2), s))
theorem fr_lose (s : SG) (s_ : Int32)  : Fr W_lose s (F_lose s s_).2 := by dsimp only [F_lose]; exact (Fr.bifp (b := m_cmp .ne (F_isSheet s s_) 0) (x := bif m_cmp .ne (s 148 s_.toNatClampNeg) 0 then ((s 150 s_.toNatClampNeg, (uset s 148 s_.toNatClampNeg 0))) else (let z6 := F_meets s 1; z6)) (y := ((-2), s)) (fun x : Int32 × SG => x.2) (Fr.bifp (b := m_cmp .ne (s 148 s_.toNatClampNeg) 0) (x := (s 150 s_.toNatClampNeg, (uset s 148 s_.toNatClampNeg 0))) (y := let z6 := F_meets s 1; z6) (fun x : Int32 × SG => x.2) (Fr.uset (s1 := s) (a := 148) (j := s_.toNatClampNeg) (x := 0) (by rfl) (Fr.rf _ _)) (Fr.tr (s1 := s) (Fr.rf _ _) (Fr.wk (W2 := W_lose) (fr_meets s 1) (by rfl)))) (Fr.rf _ _))
theorem ux_lose (s : SG) (s_ : Int32)  : UP m_X7_lose 0 (m_ent 2 [.ref 123, .int s_]) [] s (Qb (F_lose s s_)) := by
  refine UP.stp 1 (i1 := 1) (L1 := [some (.ref 123), some (.int s_)]) (st1 := [.int s_]) (s1 := s) rfl ?_
  refine UP.cI (M1 := m_X7_isSheet) (as := [.int s_]) (rest := []) (T := F_isSheet s s_) rfl rfl (ux_isSheet s s_) ?_
  refine UP.spl (m_cmp .ne (F_isSheet s s_) 0) (bif m_cmp .ne (s 148 s_.toNatClampNeg) 0 then ((s 150 s_.toNatClampNeg, (uset s 148 s_.toNatClampNeg 0))) else (let z6 := F_meets s 1; z6)) (((-2), s)) (by rfl) (fun cc => ?_) (fun cc => ?_)
  · skip
    refine UP.ifT rfl cc ?_
    refine UP.stp 4 (i1 := 9) (L1 := [some (.ref 123), some (.int s_)]) (st1 := [.int (s 148 s_.toNatClampNeg)]) (s1 := s) rfl ?_
    refine UP.spl (m_cmp .ne (s 148 s_.toNatClampNeg) 0) ((s 150 s_.toNatClampNeg, (uset s 148 s_.toNatClampNeg 0))) (let z6 := F_meets s 1; z6) (by rfl) (fun cc => ?_) (fun cc => ?_)
    · skip
      refine UP.ifT rfl cc ?_
      refine UP.stp 9 (i1 := 23) (L1 := [some (.ref 123), some (.int s_)]) (st1 := [.int (s 150 s_.toNatClampNeg)]) (s1 := (uset s 148 s_.toNatClampNeg 0)) rfl ?_
      exact UP.ret (r := some (.int (s 150 s_.toNatClampNeg))) rfl ⟨by rfl, by rfl⟩
    · skip
      refine UP.ifF rfl cc ?_
      refine UP.stp 2 (i1 := 12) (L1 := [some (.ref 123), some (.int s_)]) (st1 := [.int 1, .ref 123]) (s1 := s) rfl ?_
      refine UP.cB (M1 := m_X7_meets) (as := [.ref 123, .int 1]) (rest := []) (T := F_meets s 1) rfl rfl (ux_meets s 1) (fun z6 e6 => ?_)
      exact UP.ret (r := some (.int z6.1)) rfl ⟨by subst e6; rfl, by subst e6; rfl⟩
  · skip
    refine UP.ifF rfl cc ?_
    refine UP.stp 1 (i1 := 4) (L1 := [some (.ref 123), some (.int s_)]) (st1 := [.int (-2)]) (s1 := s) rfl ?_
    exact UP.ret (r := some (.int (-2))) rfl ⟨by rfl, by rfl⟩
