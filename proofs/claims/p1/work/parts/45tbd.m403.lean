def W_seen : List (Nat × Nat × Option Nat) := [(145, 146, none), (123, 123, some 37)]
def F_seen (s : SG) (minute : Int32) (place : Int32) : Int32 × SG := bif m_cmp .eq (F_isMinute s minute) 0 then (((-2), s)) else (bif m_cmp .ne (F_in s place 0 20) 0 then (bif m_cmp .ne (s 123 37) 8 then (let v9 := (s 123 37) + 1; (v9, (uset (uset (uset s 145 ((s 123 37).toNatClampNeg) minute) 146 ((s 123 37).toNatClampNeg) place) 123 37 v9))) else (((-4), s))) else (((-2), s)))
set_option maxRecDepth 20000 in
set_option maxHeartbeats 200000 in
theorem fr_seen (s : SG) (minute : Int32) (place : Int32)  : Fr W_seen s (F_seen s minute place).2 := by dsimp only [F_seen]; exact (Fr.bifp (b := m_cmp .eq (F_isMinute s minute) 0) (x := ((-2), s)) (y := bif m_cmp .ne (F_in s place 0 20) 0 then (bif m_cmp .ne (s 123 37) 8 then (let v9 := (s 123 37) + 1; (v9, (uset (uset (uset s 145 ((s 123 37).toNatClampNeg) minute) 146 ((s 123 37).toNatClampNeg) place) 123 37 v9))) else (((-4), s))) else (((-2), s))) (fun x : Int32 × SG => x.2) (by (try dsimp only); exact (Fr.rf _ _)) (by (try dsimp only); exact (Fr.bifp (b := m_cmp .ne (F_in s place 0 20) 0) (x := bif m_cmp .ne (s 123 37) 8 then (let v9 := (s 123 37) + 1; (v9, (uset (uset (uset s 145 ((s 123 37).toNatClampNeg) minute) 146 ((s 123 37).toNatClampNeg) place) 123 37 v9))) else (((-4), s))) (y := ((-2), s)) (fun x : Int32 × SG => x.2) (by (try dsimp only); exact (Fr.bifp (b := m_cmp .ne (s 123 37) 8) (x := let v9 := (s 123 37) + 1; (v9, (uset (uset (uset s 145 ((s 123 37).toNatClampNeg) minute) 146 ((s 123 37).toNatClampNeg) place) 123 37 v9))) (y := ((-4), s)) (fun x : Int32 × SG => x.2) (by (try dsimp only); exact (let v9 : Int32 := (s 123 37) + 1; (Fr.uset (s1 := (uset (uset s 145 ((s 123 37).toNatClampNeg) minute) 146 ((s 123 37).toNatClampNeg) place)) (a := 123) (j := 37) (x := v9) (by rfl) (Fr.uset (s1 := (uset s 145 ((s 123 37).toNatClampNeg) minute)) (a := 146) (j := (s 123 37).toNatClampNeg) (x := place) (by rfl) (Fr.uset (s1 := s) (a := 145) (j := (s 123 37).toNatClampNeg) (x := minute) (by rfl) (Fr.rf _ _)))))) (by (try dsimp only); exact (Fr.rf _ _)))) (by (try dsimp only); exact (Fr.rf _ _)))))
set_option maxRecDepth 20000 in
set_option maxHeartbeats 200000 in
theorem ux_seen (s : SG) (minute : Int32) (place : Int32)  : UP m_X7_seen 0 (m_ent 3 [.ref 123, .int minute, .int place]) [] s (Qb (F_seen s minute place)) := by
  refine UP.stp 1 (i1 := 1) (L1 := [some (.ref 123), some (.int minute), some (.int place)]) (st1 := [.int minute]) (s1 := s) rfl ?_
  refine UP.cI (M1 := m_X7_isMinute) (as := [.int minute]) (rest := []) (T := F_isMinute s minute) rfl rfl (ux_isMinute s minute) ?_
  refine UP.spl (m_cmp .eq (F_isMinute s minute) 0) (((-2), s)) (bif m_cmp .ne (F_in s place 0 20) 0 then (bif m_cmp .ne (s 123 37) 8 then (let v9 := (s 123 37) + 1; (v9, (uset (uset (uset s 145 ((s 123 37).toNatClampNeg) minute) 146 ((s 123 37).toNatClampNeg) place) 123 37 v9))) else (((-4), s))) else (((-2), s))) (by first | (dsimp only [F_seen]; done) | (dsimp only; done) | rfl) (fun cc => ?_) (fun cc => ?_)
  · skip
    refine UP.ifT rfl cc ?_
    refine UP.stp 1 (i1 := 9) (L1 := [some (.ref 123), some (.int minute), some (.int place)]) (st1 := [.int (-2)]) (s1 := s) rfl ?_
    exact UP.ret (r := some (.int (-2))) rfl ⟨by first | (dsimp only [F_seen]; done) | (dsimp only; done) | rfl, by first | (dsimp only [F_seen]; done) | (dsimp only; done) | rfl⟩
  · skip
    refine UP.ifF rfl cc ?_
    refine UP.stp 3 (i1 := 6) (L1 := [some (.ref 123), some (.int minute), some (.int place)]) (st1 := [.int 20, .int 0, .int place]) (s1 := s) rfl ?_
    refine UP.cI (M1 := m_X7_in) (as := [.int place, .int 0, .int 20]) (rest := []) (T := F_in s place 0 20) rfl rfl (ux_in s place 0 20) ?_
    refine UP.spl (m_cmp .ne (F_in s place 0 20) 0) (bif m_cmp .ne (s 123 37) 8 then (let v9 := (s 123 37) + 1; (v9, (uset (uset (uset s 145 ((s 123 37).toNatClampNeg) minute) 146 ((s 123 37).toNatClampNeg) place) 123 37 v9))) else (((-4), s))) (((-2), s)) (by first | (dsimp only [F_seen]; done) | (dsimp only; done) | rfl) (fun cc => ?_) (fun cc => ?_)
    · skip
      refine UP.ifT rfl cc ?_
      refine UP.stp 3 (i1 := 13) (L1 := [some (.ref 123), some (.int minute), some (.int place)]) (st1 := [.int 8, .int (s 123 37)]) (s1 := s) rfl ?_
      refine UP.spl (m_cmp .ne (s 123 37) 8) (let v9 := (s 123 37) + 1; (v9, (uset (uset (uset s 145 ((s 123 37).toNatClampNeg) minute) 146 ((s 123 37).toNatClampNeg) place) 123 37 v9))) (((-4), s)) (by first | (dsimp only [F_seen]; done) | (dsimp only; done) | rfl) (fun cc => ?_) (fun cc => ?_)
      · skip
        refine UP.icT rfl cc ?_
        refine UP.stp 17 (i1 := 33) (L1 := [some (.ref 123), some (.int minute), some (.int place)]) (st1 := [.int ((s 123 37) + 1), .ref 123]) (s1 := (uset (uset s 145 ((s 123 37).toNatClampNeg) minute) 146 ((s 123 37).toNatClampNeg) place)) rfl ?_
        refine nm (G := fun v9 => UP m_X7_seen 33 [some (.ref 123), some (.int minute), some (.int place)] [.int v9, .ref 123] (uset (uset s 145 ((s 123 37).toNatClampNeg) minute) 146 ((s 123 37).toNatClampNeg) place) (Qb (let v9 := (s 123 37) + 1; (v9, (uset (uset (uset s 145 ((s 123 37).toNatClampNeg) minute) 146 ((s 123 37).toNatClampNeg) place) 123 37 v9))))) ((s 123 37) + 1) (fun v9 e9 => ?_)
        refine UP.stp 3 (i1 := 36) (L1 := [some (.ref 123), some (.int minute), some (.int place)]) (st1 := [.int v9]) (s1 := (uset (uset (uset s 145 ((s 123 37).toNatClampNeg) minute) 146 ((s 123 37).toNatClampNeg) place) 123 37 v9)) rfl ?_
        exact UP.ret (r := some (.int v9)) rfl ⟨by subst e9; first | (dsimp only [F_seen]; done) | (dsimp only; done) | rfl, by subst e9; first | (dsimp only [F_seen]; done) | (dsimp only; done) | rfl⟩
      · skip
        refine UP.icF rfl cc ?_
        refine UP.stp 1 (i1 := 15) (L1 := [some (.ref 123), some (.int minute), some (.int place)]) (st1 := [.int (-4)]) (s1 := s) rfl ?_
        exact UP.ret (r := some (.int (-4))) rfl ⟨by first | (dsimp only [F_seen]; done) | (dsimp only; done) | rfl, by first | (dsimp only [F_seen]; done) | (dsimp only; done) | rfl⟩
    · skip
      refine UP.ifF rfl cc ?_
      refine UP.stp 1 (i1 := 9) (L1 := [some (.ref 123), some (.int minute), some (.int place)]) (st1 := [.int (-2)]) (s1 := s) rfl ?_
      exact UP.ret (r := some (.int (-2))) rfl ⟨by first | (dsimp only [F_seen]; done) | (dsimp only; done) | rfl, by first | (dsimp only [F_seen]; done) | (dsimp only; done) | rfl⟩
def W_forget : List (Nat × Nat × Option Nat) := [(123, 123, some 37)]
def F_forget (s : SG)  : Int32 × SG := let v1 := s 123 37; (v1, (uset s 123 37 0))
set_option maxRecDepth 20000 in
set_option maxHeartbeats 200000 in
theorem fr_forget (s : SG)   : Fr W_forget s (F_forget s).2 := by dsimp only [F_forget]; exact (Fr.uset (s1 := s) (a := 123) (j := 37) (x := 0) (by rfl) (Fr.rf _ _))
set_option maxRecDepth 20000 in
set_option maxHeartbeats 200000 in
theorem ux_forget (s : SG)   : UP m_X7_forget 0 (m_ent 2 [.ref 123]) [] s (Qb (F_forget s)) := by
  refine UP.stp 2 (i1 := 2) (L1 := [some (.ref 123), none]) (st1 := [.int (s 123 37)]) (s1 := s) rfl ?_
  refine nm (G := fun v1 => UP m_X7_forget 2 [some (.ref 123), none] [.int v1] s (Qb (F_forget s))) (s 123 37) (fun v1 e1 => ?_)
  refine UP.stp 5 (i1 := 7) (L1 := [some (.ref 123), some (.int v1)]) (st1 := [.int v1]) (s1 := (uset s 123 37 0)) rfl ?_
  exact UP.ret (r := some (.int v1)) rfl ⟨by subst e1; first | (dsimp only [F_forget]; done) | (dsimp only; done) | rfl, by subst e1; first | (dsimp only [F_forget]; done) | (dsimp only; done) | rfl⟩
