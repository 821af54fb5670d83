def W_type : List (Nat × Nat × Option Nat) := [(124, 125, none)]
def F_type (s : SG) (text : Int32) (b : Int32) : Int32 × SG := bif m_cmp .eq (F_isText s text) 0 then (((-2), s)) else (bif m_cmp .ne (F_in s b 0 255) 0 then (let v7 := bif m_cmp .ne text 0 then (24 : Int32) else (23 : Int32); bif m_cmp .ne (s 124 text.toNatClampNeg) v7 then (let v10 := (s 124 text.toNatClampNeg) + 1; ((uset (uset s 125 (((24 * text) + (s 124 text.toNatClampNeg)).toNatClampNeg) b) 124 text.toNatClampNeg v10) 124 text.toNatClampNeg, (uset (uset s 125 (((24 * text) + (s 124 text.toNatClampNeg)).toNatClampNeg) b) 124 text.toNatClampNeg v10))) else (((-4), s))) else (((-2), s)))
set_option maxRecDepth 20000 in
set_option maxHeartbeats 200000 in
theorem fr_type (s : SG) (text : Int32) (b : Int32)  : Fr W_type s (F_type s text b).2 := by dsimp only [F_type]; exact (Fr.bifp (b := m_cmp .eq (F_isText s text) 0) (x := ((-2), s)) (y := bif m_cmp .ne (F_in s b 0 255) 0 then (let v7 := bif m_cmp .ne text 0 then (24 : Int32) else (23 : Int32); bif m_cmp .ne (s 124 text.toNatClampNeg) v7 then (let v10 := (s 124 text.toNatClampNeg) + 1; ((uset (uset s 125 (((24 * text) + (s 124 text.toNatClampNeg)).toNatClampNeg) b) 124 text.toNatClampNeg v10) 124 text.toNatClampNeg, (uset (uset s 125 (((24 * text) + (s 124 text.toNatClampNeg)).toNatClampNeg) b) 124 text.toNatClampNeg v10))) else (((-4), s))) else (((-2), s))) (fun x : Int32 × SG => x.2) (by (try dsimp only); exact (Fr.rf _ _)) (by (try dsimp only); exact (Fr.bifp (b := m_cmp .ne (F_in s b 0 255) 0) (x := let v7 := bif m_cmp .ne text 0 then (24 : Int32) else (23 : Int32); bif m_cmp .ne (s 124 text.toNatClampNeg) v7 then (let v10 := (s 124 text.toNatClampNeg) + 1; ((uset (uset s 125 (((24 * text) + (s 124 text.toNatClampNeg)).toNatClampNeg) b) 124 text.toNatClampNeg v10) 124 text.toNatClampNeg, (uset (uset s 125 (((24 * text) + (s 124 text.toNatClampNeg)).toNatClampNeg) b) 124 text.toNatClampNeg v10))) else (((-4), s))) (y := ((-2), s)) (fun x : Int32 × SG => x.2) (by (try dsimp only); exact (let v7 : Int32 := bif m_cmp .ne text 0 then (24 : Int32) else (23 : Int32); (Fr.bifp (b := m_cmp .ne (s 124 text.toNatClampNeg) v7) (x := let v10 := (s 124 text.toNatClampNeg) + 1; ((uset (uset s 125 (((24 * text) + (s 124 text.toNatClampNeg)).toNatClampNeg) b) 124 text.toNatClampNeg v10) 124 text.toNatClampNeg, (uset (uset s 125 (((24 * text) + (s 124 text.toNatClampNeg)).toNatClampNeg) b) 124 text.toNatClampNeg v10))) (y := ((-4), s)) (fun x : Int32 × SG => x.2) (by (try dsimp only); exact (let v10 : Int32 := (s 124 text.toNatClampNeg) + 1; (Fr.uset (s1 := (uset s 125 (((24 * text) + (s 124 text.toNatClampNeg)).toNatClampNeg) b)) (a := 124) (j := text.toNatClampNeg) (x := v10) (by rfl) (Fr.uset (s1 := s) (a := 125) (j := ((24 * text) + (s 124 text.toNatClampNeg)).toNatClampNeg) (x := b) (by rfl) (Fr.rf _ _))))) (by (try dsimp only); exact (Fr.rf _ _))))) (by (try dsimp only); exact (Fr.rf _ _)))))
set_option maxRecDepth 20000 in
set_option maxHeartbeats 200000 in
theorem ux_type (s : SG) (text : Int32) (b : Int32)  : UP m_X7_type 0 (m_ent 3 [.ref 123, .int text, .int b]) [] s (Qb (F_type s text b)) := by
  refine UP.stp 1 (i1 := 1) (L1 := [some (.ref 123), some (.int text), some (.int b)]) (st1 := [.int text]) (s1 := s) rfl ?_
  refine UP.cI (M1 := m_X7_isText) (as := [.int text]) (rest := []) (T := F_isText s text) rfl rfl (ux_isText s text) ?_
  refine UP.spl (m_cmp .eq (F_isText s text) 0) (((-2), s)) (bif m_cmp .ne (F_in s b 0 255) 0 then (let v7 := bif m_cmp .ne text 0 then (24 : Int32) else (23 : Int32); bif m_cmp .ne (s 124 text.toNatClampNeg) v7 then (let v10 := (s 124 text.toNatClampNeg) + 1; ((uset (uset s 125 (((24 * text) + (s 124 text.toNatClampNeg)).toNatClampNeg) b) 124 text.toNatClampNeg v10) 124 text.toNatClampNeg, (uset (uset s 125 (((24 * text) + (s 124 text.toNatClampNeg)).toNatClampNeg) b) 124 text.toNatClampNeg v10))) else (((-4), s))) else (((-2), s))) (by first | (dsimp only [F_type]; done) | (dsimp only; done) | rfl) (fun cc => ?_) (fun cc => ?_)
  · skip
    refine UP.ifT rfl cc ?_
    refine UP.stp 1 (i1 := 9) (L1 := [some (.ref 123), some (.int text), some (.int b)]) (st1 := [.int (-2)]) (s1 := s) rfl ?_
    exact UP.ret (r := some (.int (-2))) rfl ⟨by first | (dsimp only [F_type]; done) | (dsimp only; done) | rfl, by first | (dsimp only [F_type]; done) | (dsimp only; done) | rfl⟩
  · skip
    refine UP.ifF rfl cc ?_
    refine UP.stp 3 (i1 := 6) (L1 := [some (.ref 123), some (.int text), some (.int b)]) (st1 := [.int 255, .int 0, .int b]) (s1 := s) rfl ?_
    refine UP.cI (M1 := m_X7_in) (as := [.int b, .int 0, .int 255]) (rest := []) (T := F_in s b 0 255) rfl rfl (ux_in s b 0 255) ?_
    refine UP.spl (m_cmp .ne (F_in s b 0 255) 0) (let v7 := bif m_cmp .ne text 0 then (24 : Int32) else (23 : Int32); bif m_cmp .ne (s 124 text.toNatClampNeg) v7 then (let v10 := (s 124 text.toNatClampNeg) + 1; ((uset (uset s 125 (((24 * text) + (s 124 text.toNatClampNeg)).toNatClampNeg) b) 124 text.toNatClampNeg v10) 124 text.toNatClampNeg, (uset (uset s 125 (((24 * text) + (s 124 text.toNatClampNeg)).toNatClampNeg) b) 124 text.toNatClampNeg v10))) else (((-4), s))) (((-2), s)) (by first | (dsimp only [F_type]; done) | (dsimp only; done) | rfl) (fun cc => ?_) (fun cc => ?_)
    · skip
      refine UP.ifT rfl cc ?_
      refine UP.stp 5 (i1 := 15) (L1 := [some (.ref 123), some (.int text), some (.int b)]) (st1 := [.int text, .int (s 124 text.toNatClampNeg)]) (s1 := s) rfl ?_
      refine mrg (m_cmp .ne text 0) (24 : Int32) (23 : Int32) (fun v7 : Int32 => UP m_X7_type 19 [some (.ref 123), some (.int text), some (.int b)] [.int v7, .int (s 124 text.toNatClampNeg)] s (Qb (let v7 := bif m_cmp .ne text 0 then (24 : Int32) else (23 : Int32); bif m_cmp .ne (s 124 text.toNatClampNeg) v7 then (let v10 := (s 124 text.toNatClampNeg) + 1; ((uset (uset s 125 (((24 * text) + (s 124 text.toNatClampNeg)).toNatClampNeg) b) 124 text.toNatClampNeg v10) 124 text.toNatClampNeg, (uset (uset s 125 (((24 * text) + (s 124 text.toNatClampNeg)).toNatClampNeg) b) 124 text.toNatClampNeg v10))) else (((-4), s))))) (fun cc kk => ?_) (fun cc kk => ?_) (fun v7 e7 => ?_)
      · skip
        refine UP.ifT rfl cc ?_
        refine UP.stp 1 (i1 := 19) (L1 := [some (.ref 123), some (.int text), some (.int b)]) (st1 := [.int 24, .int (s 124 text.toNatClampNeg)]) (s1 := s) rfl ?_
        exact kk
      · skip
        refine UP.ifF rfl cc ?_
        refine UP.stp 2 (i1 := 19) (L1 := [some (.ref 123), some (.int text), some (.int b)]) (st1 := [.int 23, .int (s 124 text.toNatClampNeg)]) (s1 := s) rfl ?_
        exact kk
      refine UP.spl (m_cmp .ne (s 124 text.toNatClampNeg) v7) (let v10 := (s 124 text.toNatClampNeg) + 1; ((uset (uset s 125 (((24 * text) + (s 124 text.toNatClampNeg)).toNatClampNeg) b) 124 text.toNatClampNeg v10) 124 text.toNatClampNeg, (uset (uset s 125 (((24 * text) + (s 124 text.toNatClampNeg)).toNatClampNeg) b) 124 text.toNatClampNeg v10))) (((-4), s)) (by subst e7; first | (dsimp only [F_type]; done) | (dsimp only; done) | rfl) (fun cc => ?_) (fun cc => ?_)
      · skip
        refine UP.icT rfl cc ?_
        refine UP.stp 19 (i1 := 41) (L1 := [some (.ref 123), some (.int text), some (.int b)]) (st1 := [.int ((s 124 text.toNatClampNeg) + 1), .int text, .ref 124]) (s1 := (uset s 125 (((24 * text) + (s 124 text.toNatClampNeg)).toNatClampNeg) b)) rfl ?_
        refine nm (G := fun v10 => UP m_X7_type 41 [some (.ref 123), some (.int text), some (.int b)] [.int v10, .int text, .ref 124] (uset s 125 (((24 * text) + (s 124 text.toNatClampNeg)).toNatClampNeg) b) (Qb (let v10 := (s 124 text.toNatClampNeg) + 1; ((uset (uset s 125 (((24 * text) + (s 124 text.toNatClampNeg)).toNatClampNeg) b) 124 text.toNatClampNeg v10) 124 text.toNatClampNeg, (uset (uset s 125 (((24 * text) + (s 124 text.toNatClampNeg)).toNatClampNeg) b) 124 text.toNatClampNeg v10))))) ((s 124 text.toNatClampNeg) + 1) (fun v10 e10 => ?_)
        refine UP.stp 5 (i1 := 46) (L1 := [some (.ref 123), some (.int text), some (.int b)]) (st1 := [.int ((uset (uset s 125 (((24 * text) + (s 124 text.toNatClampNeg)).toNatClampNeg) b) 124 text.toNatClampNeg v10) 124 text.toNatClampNeg)]) (s1 := (uset (uset s 125 (((24 * text) + (s 124 text.toNatClampNeg)).toNatClampNeg) b) 124 text.toNatClampNeg v10)) rfl ?_
        exact UP.ret (r := some (.int ((uset (uset s 125 (((24 * text) + (s 124 text.toNatClampNeg)).toNatClampNeg) b) 124 text.toNatClampNeg v10) 124 text.toNatClampNeg))) rfl ⟨by subst e10 e7; first | (dsimp only [F_type]; done) | (dsimp only; done) | rfl, by subst e10 e7; first | (dsimp only [F_type]; done) | (dsimp only; done) | rfl⟩
      · skip
        refine UP.icF rfl cc ?_
        refine UP.stp 1 (i1 := 21) (L1 := [some (.ref 123), some (.int text), some (.int b)]) (st1 := [.int (-4)]) (s1 := s) rfl ?_
        exact UP.ret (r := some (.int (-4))) rfl ⟨by subst e7; first | (dsimp only [F_type]; done) | (dsimp only; done) | rfl, by subst e7; first | (dsimp only [F_type]; done) | (dsimp only; done) | rfl⟩
    · skip
      refine UP.ifF rfl cc ?_
      refine UP.stp 1 (i1 := 9) (L1 := [some (.ref 123), some (.int text), some (.int b)]) (st1 := [.int (-2)]) (s1 := s) rfl ?_
      exact UP.ret (r := some (.int (-2))) rfl ⟨by first | (dsimp only [F_type]; done) | (dsimp only; done) | rfl, by first | (dsimp only [F_type]; done) | (dsimp only; done) | rfl⟩
def W_wipe : List (Nat × Nat × Option Nat) := [(124, 124, none)]
def F_wipe (s : SG) (text : Int32) : Int32 × SG := bif m_cmp .ne (F_isText s text) 0 then (let v4 := s 124 text.toNatClampNeg; (v4, (uset s 124 text.toNatClampNeg 0))) else (((-2), s))
set_option maxRecDepth 20000 in
set_option maxHeartbeats 200000 in
theorem fr_wipe (s : SG) (text : Int32)  : Fr W_wipe s (F_wipe s text).2 := by dsimp only [F_wipe]; exact (Fr.bifp (b := m_cmp .ne (F_isText s text) 0) (x := let v4 := s 124 text.toNatClampNeg; (v4, (uset s 124 text.toNatClampNeg 0))) (y := ((-2), s)) (fun x : Int32 × SG => x.2) (by (try dsimp only); exact (Fr.uset (s1 := s) (a := 124) (j := text.toNatClampNeg) (x := 0) (by rfl) (Fr.rf _ _))) (by (try dsimp only); exact (Fr.rf _ _)))
set_option maxRecDepth 20000 in
set_option maxHeartbeats 200000 in
theorem ux_wipe (s : SG) (text : Int32)  : UP m_X7_wipe 0 (m_ent 3 [.ref 123, .int text]) [] s (Qb (F_wipe s text)) := by
  refine UP.stp 1 (i1 := 1) (L1 := [some (.ref 123), some (.int text), none]) (st1 := [.int text]) (s1 := s) rfl ?_
  refine UP.cI (M1 := m_X7_isText) (as := [.int text]) (rest := []) (T := F_isText s text) rfl rfl (ux_isText s text) ?_
  refine UP.spl (m_cmp .ne (F_isText s text) 0) (let v4 := s 124 text.toNatClampNeg; (v4, (uset s 124 text.toNatClampNeg 0))) (((-2), s)) (by first | (dsimp only [F_wipe]; done) | (dsimp only; done) | rfl) (fun cc => ?_) (fun cc => ?_)
  · skip
    refine UP.ifT rfl cc ?_
    refine UP.stp 4 (i1 := 9) (L1 := [some (.ref 123), some (.int text), none]) (st1 := [.int (s 124 text.toNatClampNeg)]) (s1 := s) rfl ?_
    refine nm (G := fun v4 => UP m_X7_wipe 9 [some (.ref 123), some (.int text), none] [.int v4] s (Qb (let v4 := s 124 text.toNatClampNeg; (v4, (uset s 124 text.toNatClampNeg 0))))) (s 124 text.toNatClampNeg) (fun v4 e4 => ?_)
    refine UP.stp 7 (i1 := 16) (L1 := [some (.ref 123), some (.int text), some (.int v4)]) (st1 := [.int v4]) (s1 := (uset s 124 text.toNatClampNeg 0)) rfl ?_
    exact UP.ret (r := some (.int v4)) rfl ⟨by subst e4; first | (dsimp only [F_wipe]; done) | (dsimp only; done) | rfl, by subst e4; first | (dsimp only [F_wipe]; done) | (dsimp only; done) | rfl⟩
  · skip
    refine UP.ifF rfl cc ?_
    refine UP.stp 1 (i1 := 4) (L1 := [some (.ref 123), some (.int text), none]) (st1 := [.int (-2)]) (s1 := s) rfl ?_
    exact UP.ret (r := some (.int (-2))) rfl ⟨by first | (dsimp only [F_wipe]; done) | (dsimp only; done) | rfl, by first | (dsimp only [F_wipe]; done) | (dsimp only; done) | rfl⟩
