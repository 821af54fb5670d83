def W_type : List (Nat × Nat × Option Nat) := [(124, 125, none)]
def F_type (s : SG) (text : Int32) (b : Int32) : Int32 × SG := bif m_cmp .eq (F_isText s text) 0 then (((-2), s)) else (bif m_cmp .ne (F_in s b 0 255) 0 then (let v7 := bif m_cmp .ne text 0 then (24 : Int32) else (23 : Int32); bif m_cmp .ne (s 124 text.toNatClampNeg) v7 then (let v10 := (s 124 text.toNatClampNeg) + 1; ((uset (uset s 125 (((24 * text) + (s 124 text.toNatClampNeg)).toNatClampNeg) b) 124 text.toNatClampNeg v10) 124 text.toNatClampNeg, (uset (uset s 125 (((24 * text) + (s 124 text.toNatClampNeg)).toNatClampNeg) b) 124 text.toNatClampNeg v10))) else (((-4), s))) else (((-2), s)))
theorem fr_type (s : SG) (text : Int32) (b : Int32)  : Fr W_type s (F_type s text b).2 := by dsimp only [F_type]; exact (Fr.bifp (b := m_cmp .eq (F_isText s text) 0) (x := ((-2), s)) (y := bif m_cmp .ne (F_in s b 0 255) 0 then (let v7 := bif m_cmp .ne text 0 then (24 : Int32) else (23 : Int32); bif m_cmp .ne (s 124 text.toNatClampNeg) v7 then (let v10 := (s 124 text.toNatClampNeg) + 1; ((uset (uset s 125 (((24 * text) + (s 124 text.toNatClampNeg)).toNatClampNeg) b) 124 text.toNatClampNeg v10) 124 text.toNatClampNeg, (uset (uset s 125 (((24 * text) + (s 124 text.toNatClampNeg)).toNatClampNeg) b) 124 text.toNatClampNeg v10))) else (((-4), s))) else (((-2), s))) (fun x : Int32 × SG => x.2) (Fr.rf _ _) (Fr.bifp (b := m_cmp .ne (F_in s b 0 255) 0) (x := let v7 := bif m_cmp .ne text 0 then (24 : Int32) else (23 : Int32); bif m_cmp .ne (s 124 text.toNatClampNeg) v7 then (let v10 := (s 124 text.toNatClampNeg) + 1; ((uset (uset s 125 (((24 * text) + (s 124 text.toNatClampNeg)).toNatClampNeg) b) 124 text.toNatClampNeg v10) 124 text.toNatClampNeg, (uset (uset s 125 (((24 * text) + (s 124 text.toNatClampNeg)).toNatClampNeg) b) 124 text.toNatClampNeg v10))) else (((-4), s))) (y := ((-2), s)) (fun x : Int32 × SG => x.2) (let v7 : Int32 := bif m_cmp .ne text 0 then (24 : Int32) else (23 : Int32); (Fr.bifp (b := m_cmp .ne (s 124 text.toNatClampNeg) v7) (x := let v10 := (s 124 text.toNatClampNeg) + 1; ((uset (uset s 125 (((24 * text) + (s 124 text.toNatClampNeg)).toNatClampNeg) b) 124 text.toNatClampNeg v10) 124 text.toNatClampNeg, (uset (uset s 125 (((24 * text) + (s 124 text.toNatClampNeg)).toNatClampNeg) b) 124 text.toNatClampNeg v10))) (y := ((-4), s)) (fun x : Int32 × SG => x.2) (let v10 : Int32 := (s 124 text.toNatClampNeg) + 1; (Fr.uset (s1 := (uset s 125 (((24 * text) + (s 124 text.toNatClampNeg)).toNatClampNeg) b)) (a := 124) (j := text.toNatClampNeg) (x := v10) (by rfl) (Fr.uset (s1 := s) (a := 125) (j := ((24 * text) + (s 124 text.toNatClampNeg)).toNatClampNeg) (x := b) (by rfl) (Fr.rf _ _)))) (Fr.rf _ _))) (Fr.rf _ _)))
theorem ux_type (s : SG) (text : Int32) (b : Int32)  : UP m_X7_type 0 (m_ent 3 [.ref 123, .int text, .int b]) [] s (Qb (F_type s text b)) := by
  refine UP.stp 1 (i1 := 1) (L1 := [some (.ref 123), some (.int text), some (.int b)]) (st1 := [.int text]) (s1 := s) rfl ?_
  refine UP.cI (M1 := m_X7_isText) (as := [.int text]) (rest := []) (T := F_isText s text) rfl rfl (ux_isText s text) ?_
  refine UP.spl (m_cmp .eq (F_isText s text) 0) (((-2), s)) (bif m_cmp .ne (F_in s b 0 255) 0 then (let v7 := bif m_cmp .ne text 0 then (24 : Int32) else (23 : Int32); bif m_cmp .ne (s 124 text.toNatClampNeg) v7 then (let v10 := (s 124 text.toNatClampNeg) + 1; ((uset (uset s 125 (((24 * text) + (s 124 text.toNatClampNeg)).toNatClampNeg) b) 124 text.toNatClampNeg v10) 124 text.toNatClampNeg, (uset (uset s 125 (((24 * text) + (s 124 text.toNatClampNeg)).toNatClampNeg) b) 124 text.toNatClampNeg v10))) else (((-4), s))) else (((-2), s))) (by rfl) (fun cc => ?_) (fun cc => ?_)
  · skip
    refine UP.ifT rfl cc ?_
    refine UP.stp 1 (i1 := 9) (L1 := [some (.ref 123), some (.int text), some (.int b)]) (st1 := [.int (-2)]) (s1 := s) rfl ?_
    exact UP.ret (r := some (.int (-2))) rfl ⟨by rfl, by rfl⟩
  · skip
    refine UP.ifF rfl cc ?_
    refine UP.stp 3 (i1 := 6) (L1 := [some (.ref 123), some (.int text), some (.int b)]) (st1 := [.int 255, .int 0, .int b]) (s1 := s) rfl ?_
    refine UP.cI (M1 := m_X7_in) (as := [.int b, .int 0, .int 255]) (rest := []) (T := F_in s b 0 255) rfl rfl (ux_in s b 0 255) ?_
    refine UP.spl (m_cmp .ne (F_in s b 0 255) 0) (let v7 := bif m_cmp .ne text 0 then (24 : Int32) else (23 : Int32); bif m_cmp .ne (s 124 text.toNatClampNeg) v7 then (let v10 := (s 124 text.toNatClampNeg) + 1; ((uset (uset s 125 (((24 * text) + (s 124 text.toNatClampNeg)).toNatClampNeg) b) 124 text.toNatClampNeg v10) 124 text.toNatClampNeg, (uset (uset s 125 (((24 * text) + (s 124 text.toNatClampNeg)).toNatClampNeg) b) 124 text.toNatClampNeg v10))) else (((-4), s))) (((-2), s)) (by rfl) (fun cc => ?_) (fun cc => ?_)
    · skip
      refine UP.ifT rfl cc ?_
      refine UP.stp 5 (i1 := 15) (L1 := [some (.ref 123), some (.int text), some (.int b)]) (st1 := [.int text, .int (s 124 text.toNatClampNeg)]) (s1 := s) rfl ?_
      refine mrg (m_cmp .ne text 0) (24 : Int32) (23 : Int32) (fun v7 : Int32 => UP m_X7_type 19 [some (.ref 123), some (.int text), some (.int b)] [.int v7, .int (s 124 text.toNatClampNeg)] s (Qb (let v7 := bif m_cmp .ne text 0 then (24 : Int32) else (23 : Int32); bif m_cmp .ne (s 124 text.toNatClampNeg) v7 then (let v10 := (s 124 text.toNatClampNeg) + 1; ((uset (uset s 125 (((24 * text) + (s 124 text.toNatClampNeg)).toNatClampNeg) b) 124 text.toNatClampNeg v10) 124 text.toNatClampNeg, (uset (uset s 125 (((24 * text) + (s 124 text.toNatClampNeg)).toNatClampNeg) b) 124 text.toNatClampNeg v10))) else (((-4), s))))) (fun cc kk => ?_) (fun cc kk => ?_) (fun v7 e7 => ?_)
      · skip
        refine UP.ifT rfl cc ?_
        refine UP.stp 1 (i1 := 19) (L1 := [some (.ref 123), some (.int text), some (.int b)]) (st1 := [.int 24, .int (s 124 text.toNatClampNeg)]) (s1 := s) rfl ?_
        exact kk
      · skip
        refine UP.ifF rfl cc ?_
        refine UP.stp 2 (i1 := 19) (L1 := [some (.ref 123), some (.int text), some (.int b)]) (st1 := [.int 23, .int (s 124 text.toNatClampNeg)]) (s1 := s) rfl ?_
        exact kk
      refine UP.spl (m_cmp .ne (s 124 text.toNatClampNeg) v7) (let v10 := (s 124 text.toNatClampNeg) + 1; ((uset (uset s 125 (((24 * text) + (s 124 text.toNatClampNeg)).toNatClampNeg) b) 124 text.toNatClampNeg v10) 124 text.toNatClampNeg, (uset (uset s 125 (((24 * text) + (s 124 text.toNatClampNeg)).toNatClampNeg) b) 124 text.toNatClampNeg v10))) (((-4), s)) (by subst e7; rfl) (fun cc => ?_) (fun cc => ?_)
      · skip
        refine UP.icT rfl cc ?_
        refine UP.stp 19 (i1 := 41) (L1 := [some (.ref 123), some (.int text), some (.int b)]) (st1 := [.int ((s 124 text.toNatClampNeg) + 1), .int text, .ref 124]) (s1 := (uset s 125 (((24 * text) + (s 124 text.toNatClampNeg)).toNatClampNeg) b)) rfl ?_
        refine nm (G := fun v10 => UP m_X7_type 41 [some (.ref 123), some (.int text), some (.int b)] [.int v10, .int text, .ref 124] (uset s 125 (((24 * text) + (s 124 text.toNatClampNeg)).toNatClampNeg) b) (Qb (let v10 := (s 124 text.toNatClampNeg) + 1; ((uset (uset s 125 (((24 * text) + (s 124 text.toNatClampNeg)).toNatClampNeg) b) 124 text.toNatClampNeg v10) 124 text.toNatClampNeg, (uset (uset s 125 (((24 * text) + (s 124 text.toNatClampNeg)).toNatClampNeg) b) 124 text.toNatClampNeg v10))))) ((s 124 text.toNatClampNeg) + 1) (fun v10 e10 => ?_)
        refine UP.stp 5 (i1 := 46) (L1 := [some (.ref 123), some (.int text), some (.int b)]) (st1 := [.int ((uset (uset s 125 (((24 * text) + (s 124 text.toNatClampNeg)).toNatClampNeg) b) 124 text.toNatClampNeg v10) 124 text.toNatClampNeg)]) (s1 := (uset (uset s 125 (((24 * text) + (s 124 text.toNatClampNeg)).toNatClampNeg) b) 124 text.toNatClampNeg v10)) rfl ?_
        exact UP.ret (r := some (.int ((uset (uset s 125 (((24 * text) + (s 124 text.toNatClampNeg)).toNatClampNeg) b) 124 text.toNatClampNeg v10) 124 text.toNatClampNeg))) rfl ⟨by subst e10 e7; rfl, by subst e10 e7; rfl⟩
      · skip
        refine UP.icF rfl cc ?_
        refine UP.stp 1 (i1 := 21) (L1 := [some (.ref 123), some (.int text), some (.int b)]) (st1 := [.int (-4)]) (s1 := s) rfl ?_
        exact UP.ret (r := some (.int (-4))) rfl ⟨by subst e7; rfl, by subst e7; rfl⟩
    · skip
      refine UP.ifF rfl cc ?_
      refine UP.stp 1 (i1 := 9) (L1 := [some (.ref 123), some (.int text), some (.int b)]) (st1 := [.int (-2)]) (s1 := s) rfl ?_
      exact UP.ret (r := some (.int (-2))) rfl ⟨by rfl, by rfl⟩
def W_wipe : List (Nat × Nat × Option Nat) := [(124, 124, none)]
def F_wipe (s : SG) (text : Int32) : Int32 × SG := bif m_cmp .ne (F_isText s text) 0 then (let v4 := s 124 text.toNatClampNeg; (v4, (uset s 124 text.toNatClampNeg 0))) else (((-2), s))
theorem fr_wipe (s : SG) (text : Int32)  : Fr W_wipe s (F_wipe s text).2 := by dsimp only [F_wipe]; exact (Fr.bifp (b := m_cmp .ne (F_isText s text) 0) (x := let v4 := s 124 text.toNatClampNeg; (v4, (uset s 124 text.toNatClampNeg 0))) (y := ((-2), s)) (fun x : Int32 × SG => x.2) (Fr.uset (s1 := s) (a := 124) (j := text.toNatClampNeg) (x := 0) (by rfl) (Fr.rf _ _)) (Fr.rf _ _))
theorem ux_wipe (s : SG) (text : Int32)  : UP m_X7_wipe 0 (m_ent 3 [.ref 123, .int text]) [] s (Qb (F_wipe s text)) := by
  refine UP.stp 1 (i1 := 1) (L1 := [some (.ref 123), some (.int text), none]) (st1 := [.int text]) (s1 := s) rfl ?_
  refine UP.cI (M1 := m_X7_isText) (as := [.int text]) (rest := []) (T := F_isText s text) rfl rfl (ux_isText s text) ?_
  refine UP.spl (m_cmp .ne (F_isText s text) 0) (let v4 := s 124 text.toNatClampNeg; (v4, (uset s 124 text.toNatClampNeg 0))) (((-2), s)) (by rfl) (fun cc => ?_) (fun cc => ?_)
  · skip
    refine UP.ifT rfl cc ?_
    refine UP.stp 4 (i1 := 9) (L1 := [some (.ref 123), some (.int text), none]) (st1 := [.int (s 124 text.toNatClampNeg)]) (s1 := s) rfl ?_
    refine nm (G := fun v4 => UP m_X7_wipe 9 [some (.ref 123), some (.int text), none] [.int v4] s (Qb (let v4 := s 124 text.toNatClampNeg; (v4, (uset s 124 text.toNatClampNeg 0))))) (s 124 text.toNatClampNeg) (fun v4 e4 => ?_)
    refine UP.stp 7 (i1 := 16) (L1 := [some (.ref 123), some (.int text), some (.int v4)]) (st1 := [.int v4]) (s1 := (uset s 124 text.toNatClampNeg 0)) rfl ?_
    exact UP.ret (r := some (.int v4)) rfl ⟨by subst e4; rfl, by subst e4; rfl⟩
  · skip
    refine UP.ifF rfl cc ?_
    refine UP.stp 1 (i1 := 4) (L1 := [some (.ref 123), some (.int text), none]) (st1 := [.int (-2)]) (s1 := s) rfl ?_
    exact UP.ret (r := some (.int (-2))) rfl ⟨by rfl, by rfl⟩
def W_undo : List (Nat × Nat × Option Nat) := [(124, 124, none)]
def F_undo (s : SG) (text : Int32) : Int32 × SG := bif m_cmp .ne (F_isText s text) 0 then (bif m_cmp .ne (s 124 text.toNatClampNeg) 0 then (let v6 := (s 124 text.toNatClampNeg) - 1; ((uset s 124 text.toNatClampNeg v6) 124 text.toNatClampNeg, (uset s 124 text.toNatClampNeg v6))) else (((-3), s))) else (((-2), s))
theorem fr_undo (s : SG) (text : Int32)  : Fr W_undo s (F_undo s text).2 := by dsimp only [F_undo]; exact (Fr.bifp (b := m_cmp .ne (F_isText s text) 0) (x := bif m_cmp .ne (s 124 text.toNatClampNeg) 0 then (let v6 := (s 124 text.toNatClampNeg) - 1; ((uset s 124 text.toNatClampNeg v6) 124 text.toNatClampNeg, (uset s 124 text.toNatClampNeg v6))) else (((-3), s))) (y := ((-2), s)) (fun x : Int32 × SG => x.2) (Fr.bifp (b := m_cmp .ne (s 124 text.toNatClampNeg) 0) (x := let v6 := (s 124 text.toNatClampNeg) - 1; ((uset s 124 text.toNatClampNeg v6) 124 text.toNatClampNeg, (uset s 124 text.toNatClampNeg v6))) (y := ((-3), s)) (fun x : Int32 × SG => x.2) (let v6 : Int32 := (s 124 text.toNatClampNeg) - 1; (Fr.uset (s1 := s) (a := 124) (j := text.toNatClampNeg) (x := v6) (by rfl) (Fr.rf _ _))) (Fr.rf _ _)) (Fr.rf _ _))
theorem ux_undo (s : SG) (text : Int32)  : UP m_X7_undo 0 (m_ent 2 [.ref 123, .int text]) [] s (Qb (F_undo s text)) := by
  refine UP.stp 1 (i1 := 1) (L1 := [some (.ref 123), some (.int text)]) (st1 := [.int text]) (s1 := s) rfl ?_
  refine UP.cI (M1 := m_X7_isText) (as := [.int text]) (rest := []) (T := F_isText s text) rfl rfl (ux_isText s text) ?_
  refine UP.spl (m_cmp .ne (F_isText s text) 0) (bif m_cmp .ne (s 124 text.toNatClampNeg) 0 then (let v6 := (s 124 text.toNatClampNeg) - 1; ((uset s 124 text.toNatClampNeg v6) 124 text.toNatClampNeg, (uset s 124 text.toNatClampNeg v6))) else (((-3), s))) (((-2), s)) (by rfl) (fun cc => ?_) (fun cc => ?_)
  · skip
    refine UP.ifT rfl cc ?_
    refine UP.stp 4 (i1 := 9) (L1 := [some (.ref 123), some (.int text)]) (st1 := [.int (s 124 text.toNatClampNeg)]) (s1 := s) rfl ?_
    refine UP.spl (m_cmp .ne (s 124 text.toNatClampNeg) 0) (let v6 := (s 124 text.toNatClampNeg) - 1; ((uset s 124 text.toNatClampNeg v6) 124 text.toNatClampNeg, (uset s 124 text.toNatClampNeg v6))) (((-3), s)) (by rfl) (fun cc => ?_) (fun cc => ?_)
    · skip
      refine UP.ifT rfl cc ?_
      refine UP.stp 7 (i1 := 19) (L1 := [some (.ref 123), some (.int text)]) (st1 := [.int ((s 124 text.toNatClampNeg) - 1), .int text, .ref 124]) (s1 := s) rfl ?_
      refine nm (G := fun v6 => UP m_X7_undo 19 [some (.ref 123), some (.int text)] [.int v6, .int text, .ref 124] s (Qb (let v6 := (s 124 text.toNatClampNeg) - 1; ((uset s 124 text.toNatClampNeg v6) 124 text.toNatClampNeg, (uset s 124 text.toNatClampNeg v6))))) ((s 124 text.toNatClampNeg) - 1) (fun v6 e6 => ?_)
      refine UP.stp 5 (i1 := 24) (L1 := [some (.ref 123), some (.int text)]) (st1 := [.int ((uset s 124 text.toNatClampNeg v6) 124 text.toNatClampNeg)]) (s1 := (uset s 124 text.toNatClampNeg v6)) rfl ?_
      exact UP.ret (r := some (.int ((uset s 124 text.toNatClampNeg v6) 124 text.toNatClampNeg))) rfl ⟨by subst e6; rfl, by subst e6; rfl⟩
    · skip
      refine UP.ifF rfl cc ?_
      refine UP.stp 1 (i1 := 11) (L1 := [some (.ref 123), some (.int text)]) (st1 := [.int (-3)]) (s1 := s) rfl ?_
      exact UP.ret (r := some (.int (-3))) rfl ⟨by rfl, by rfl⟩
  · skip
    refine UP.ifF rfl cc ?_
    refine UP.stp 1 (i1 := 4) (L1 := [some (.ref 123), some (.int text)]) (st1 := [.int (-2)]) (s1 := s) rfl ?_
    exact UP.ret (r := some (.int (-2))) rfl ⟨by rfl, by rfl⟩
def W_tellOf : List (Nat × Nat × Option Nat) := [(126, 129, none), (133, 144, none), (147, 147, none), (123, 123, some 2), (123, 123, some 5), (123, 123, some 7), (123, 123, some 17), (123, 123, some 19), (123, 123, some 20), (123, 123, some 21), (123, 123, some 22), (123, 123, some 23), (123, 123, some 24), (123, 123, some 25), (123, 123, some 26), (123, 123, some 27)]
def F_tellOf (s : SG) (what : Int32) : Int32 × SG := let z1 := F_reads s ; let v3 := bif m_cmp .ne what 0 then (bif m_cmp .ne what 1 then z1 123 7 else z1 123 5) else z1 123 2; (v3, z1)
theorem fr_tellOf (s : SG) (what : Int32)  : Fr W_tellOf s (F_tellOf s what).2 := by dsimp only [F_tellOf]; exact (Fr.tr (s1 := s) (Fr.rf _ _) (Fr.wk (W2 := W_tellOf) (fr_reads s ) (by rfl)))
theorem ux_tellOf (s : SG) (what : Int32)  : UP m_X7_tellOf 0 (m_ent 2 [.ref 123, .int what]) [] s (Qb (F_tellOf s what)) := by
  refine UP.stp 1 (i1 := 1) (L1 := [some (.ref 123), some (.int what)]) (st1 := [.ref 123]) (s1 := s) rfl ?_
  refine UP.cV (M1 := m_X7_reads) (as := [.ref 123]) (rest := []) (T := F_reads s ) rfl rfl (ux_reads s ) (fun z1 e1 => ?_)
  refine UP.stp 1 (i1 := 3) (L1 := [some (.ref 123), some (.int what)]) (st1 := [.int what]) (s1 := z1) rfl ?_
  refine mrg (m_cmp .ne what 0) (bif m_cmp .ne what 1 then z1 123 7 else z1 123 5) (z1 123 2) (fun v3 : Int32 => UP m_X7_tellOf 15 [some (.ref 123), some (.int what)] [.int v3] z1 (Qb (F_tellOf s what))) (fun cc kk => ?_) (fun cc kk => ?_) (fun v3 e3 => ?_)
  · skip
    refine UP.ifT rfl cc ?_
    refine UP.stp 2 (i1 := 9) (L1 := [some (.ref 123), some (.int what)]) (st1 := [.int 1, .int what]) (s1 := z1) rfl ?_
    refine mrg (m_cmp .ne what 1) (z1 123 7) (z1 123 5) (fun v2 : Int32 => UP m_X7_tellOf 15 [some (.ref 123), some (.int what)] [.int v2] z1 (Qb (F_tellOf s what))) (fun cc kk => ?_) (fun cc kk => ?_) (fun v2 e2 => ?_)
    · skip
      refine UP.icT rfl cc ?_
      refine UP.stp 2 (i1 := 15) (L1 := [some (.ref 123), some (.int what)]) (st1 := [.int (z1 123 7)]) (s1 := z1) rfl ?_
      exact kk
    · skip
      refine UP.icF rfl cc ?_
      refine UP.stp 3 (i1 := 15) (L1 := [some (.ref 123), some (.int what)]) (st1 := [.int (z1 123 5)]) (s1 := z1) rfl ?_
      exact kk
    subst e2
    exact kk
  · skip
    refine UP.ifF rfl cc ?_
    refine UP.stp 3 (i1 := 15) (L1 := [some (.ref 123), some (.int what)]) (st1 := [.int (z1 123 2)]) (s1 := z1) rfl ?_
    exact kk
  exact UP.ret (r := some (.int v3)) rfl ⟨by subst e3 e1; rfl, by subst e3 e1; rfl⟩
def W_count : List (Nat × Nat × Option Nat) := [(126, 129, none), (133, 144, none), (147, 147, none), (123, 123, some 2), (123, 123, some 5), (123, 123, some 7), (123, 123, some 17), (123, 123, some 19), (123, 123, some 20), (123, 123, some 21), (123, 123, some 22), (123, 123, some 23), (123, 123, some 24), (123, 123, some 25), (123, 123, some 26), (123, 123, some 27)]
def F_count (s : SG) (what : Int32) : Int32 × SG := bif m_cmp .eq what 0 then (let z2 := F_tellOf s what; z2) else (bif m_cmp .eq what 1 then (let z5 := F_tellOf s what; z5) else (bif m_cmp .eq what 2 then (let z8 := F_tellOf s what; z8) else (bif m_cmp .eq what 3 then ((((s 124 0) + (s 124 1)) + (s 124 2), s)) else (bif m_cmp .eq what 4 then ((s 123 11, s)) else (bif m_cmp .eq what 5 then ((s 123 9, s)) else (bif m_cmp .eq what 6 then ((s 123 10, s)) else (bif m_cmp .eq what 7 then ((s 123 37, s)) else (bif m_cmp .eq what 8 then ((s 123 46, s)) else (((-2), s))))))))))
theorem fr_count (s : SG) (what : Int32)  : Fr W_count s (F_count s what).2 := by dsimp only [F_count]; exact (Fr.bifp (b := m_cmp .eq what 0) (x := let z2 := F_tellOf s what; z2) (y := bif m_cmp .eq what 1 then (let z5 := F_tellOf s what; z5) else (bif m_cmp .eq what 2 then (let z8 := F_tellOf s what; z8) else (bif m_cmp .eq what 3 then ((((s 124 0) + (s 124 1)) + (s 124 2), s)) else (bif m_cmp .eq what 4 then ((s 123 11, s)) else (bif m_cmp .eq what 5 then ((s 123 9, s)) else (bif m_cmp .eq what 6 then ((s 123 10, s)) else (bif m_cmp .eq what 7 then ((s 123 37, s)) else (bif m_cmp .eq what 8 then ((s 123 46, s)) else (((-2), s)))))))))) (fun x : Int32 × SG => x.2) (Fr.tr (s1 := s) (Fr.rf _ _) (Fr.wk (W2 := W_count) (fr_tellOf s what) (by rfl))) (Fr.bifp (b := m_cmp .eq what 1) (x := let z5 := F_tellOf s what; z5) (y := bif m_cmp .eq what 2 then (let z8 := F_tellOf s what; z8) else (bif m_cmp .eq what 3 then ((((s 124 0) + (s 124 1)) + (s 124 2), s)) else (bif m_cmp .eq what 4 then ((s 123 11, s)) else (bif m_cmp .eq what 5 then ((s 123 9, s)) else (bif m_cmp .eq what 6 then ((s 123 10, s)) else (bif m_cmp .eq what 7 then ((s 123 37, s)) else (bif m_cmp .eq what 8 then ((s 123 46, s)) else (((-2), s))))))))) (fun x : Int32 × SG => x.2) (Fr.tr (s1 := s) (Fr.rf _ _) (Fr.wk (W2 := W_count) (fr_tellOf s what) (by rfl))) (Fr.bifp (b := m_cmp .eq what 2) (x := let z8 := F_tellOf s what; z8) (y := bif m_cmp .eq what 3 then ((((s 124 0) + (s 124 1)) + (s 124 2), s)) else (bif m_cmp .eq what 4 then ((s 123 11, s)) else (bif m_cmp .eq what 5 then ((s 123 9, s)) else (bif m_cmp .eq what 6 then ((s 123 10, s)) else (bif m_cmp .eq what 7 then ((s 123 37, s)) else (bif m_cmp .eq what 8 then ((s 123 46, s)) else (((-2), s)))))))) (fun x : Int32 × SG => x.2) (Fr.tr (s1 := s) (Fr.rf _ _) (Fr.wk (W2 := W_count) (fr_tellOf s what) (by rfl))) (Fr.bifp (b := m_cmp .eq what 3) (x := (((s 124 0) + (s 124 1)) + (s 124 2), s)) (y := bif m_cmp .eq what 4 then ((s 123 11, s)) else (bif m_cmp .eq what 5 then ((s 123 9, s)) else (bif m_cmp .eq what 6 then ((s 123 10, s)) else (bif m_cmp .eq what 7 then ((s 123 37, s)) else (bif m_cmp .eq what 8 then ((s 123 46, s)) else (((-2), s))))))) (fun x : Int32 × SG => x.2) (Fr.rf _ _) (Fr.bifp (b := m_cmp .eq what 4) (x := (s 123 11, s)) (y := bif m_cmp .eq what 5 then ((s 123 9, s)) else (bif m_cmp .eq what 6 then ((s 123 10, s)) else (bif m_cmp .eq what 7 then ((s 123 37, s)) else (bif m_cmp .eq what 8 then ((s 123 46, s)) else (((-2), s)))))) (fun x : Int32 × SG => x.2) (Fr.rf _ _) (Fr.bifp (b := m_cmp .eq what 5) (x := (s 123 9, s)) (y := bif m_cmp .eq what 6 then ((s 123 10, s)) else (bif m_cmp .eq what 7 then ((s 123 37, s)) else (bif m_cmp .eq what 8 then ((s 123 46, s)) else (((-2), s))))) (fun x : Int32 × SG => x.2) (Fr.rf _ _) (Fr.bifp (b := m_cmp .eq what 6) (x := (s 123 10, s)) (y := bif m_cmp .eq what 7 then ((s 123 37, s)) else (bif m_cmp .eq what 8 then ((s 123 46, s)) else (((-2), s)))) (fun x : Int32 × SG => x.2) (Fr.rf _ _) (Fr.bifp (b := m_cmp .eq what 7) (x := (s 123 37, s)) (y := bif m_cmp .eq what 8 then ((s 123 46, s)) else (((-2), s))) (fun x : Int32 × SG => x.2) (Fr.rf _ _) (Fr.bifp (b := m_cmp .eq what 8) (x := (s 123 46, s)) (y := ((-2), s)) (fun x : Int32 × SG => x.2) (Fr.rf _ _) (Fr.rf _ _))))))))))
theorem ux_count (s : SG) (what : Int32)  : UP m_X7_count 0 (m_ent 2 [.ref 123, .int what]) [] s (Qb (F_count s what)) := by
  refine UP.stp 1 (i1 := 1) (L1 := [some (.ref 123), some (.int what)]) (st1 := [.int what]) (s1 := s) rfl ?_
  refine UP.spl (m_cmp .eq what 0) (let z2 := F_tellOf s what; z2) (bif m_cmp .eq what 1 then (let z5 := F_tellOf s what; z5) else (bif m_cmp .eq what 2 then (let z8 := F_tellOf s what; z8) else (bif m_cmp .eq what 3 then ((((s 124 0) + (s 124 1)) + (s 124 2), s)) else (bif m_cmp .eq what 4 then ((s 123 11, s)) else (bif m_cmp .eq what 5 then ((s 123 9, s)) else (bif m_cmp .eq what 6 then ((s 123 10, s)) else (bif m_cmp .eq what 7 then ((s 123 37, s)) else (bif m_cmp .eq what 8 then ((s 123 46, s)) else (((-2), s)))))))))) (by rfl) (fun cs0 => ?_) (fun cs0 => ?_)
  · skip
    refine UP.swT 0 rfl cs0 (by decide) (by decide) ?_
    refine UP.stp 2 (i1 := 4) (L1 := [some (.ref 123), some (.int what)]) (st1 := [.int what, .ref 123]) (s1 := s) rfl ?_
    refine UP.cB (M1 := m_X7_tellOf) (as := [.ref 123, .int what]) (rest := []) (T := F_tellOf s what) rfl rfl (ux_tellOf s what) (fun z2 e2 => ?_)
    exact UP.ret (r := some (.int z2.1)) rfl ⟨by subst e2; rfl, by subst e2; rfl⟩
  · skip
    refine UP.spl (m_cmp .eq what 1) (let z5 := F_tellOf s what; z5) (bif m_cmp .eq what 2 then (let z8 := F_tellOf s what; z8) else (bif m_cmp .eq what 3 then ((((s 124 0) + (s 124 1)) + (s 124 2), s)) else (bif m_cmp .eq what 4 then ((s 123 11, s)) else (bif m_cmp .eq what 5 then ((s 123 9, s)) else (bif m_cmp .eq what 6 then ((s 123 10, s)) else (bif m_cmp .eq what 7 then ((s 123 37, s)) else (bif m_cmp .eq what 8 then ((s 123 46, s)) else (((-2), s))))))))) (by rfl) (fun cs1 => ?_) (fun cs1 => ?_)
    · skip
      refine UP.swT 1 rfl cs1 (by decide) (by decide) ?_
      refine UP.stp 2 (i1 := 4) (L1 := [some (.ref 123), some (.int what)]) (st1 := [.int what, .ref 123]) (s1 := s) rfl ?_
      refine UP.cB (M1 := m_X7_tellOf) (as := [.ref 123, .int what]) (rest := []) (T := F_tellOf s what) rfl rfl (ux_tellOf s what) (fun z5 e5 => ?_)
      exact UP.ret (r := some (.int z5.1)) rfl ⟨by subst e5; rfl, by subst e5; rfl⟩
    · skip
      refine UP.spl (m_cmp .eq what 2) (let z8 := F_tellOf s what; z8) (bif m_cmp .eq what 3 then ((((s 124 0) + (s 124 1)) + (s 124 2), s)) else (bif m_cmp .eq what 4 then ((s 123 11, s)) else (bif m_cmp .eq what 5 then ((s 123 9, s)) else (bif m_cmp .eq what 6 then ((s 123 10, s)) else (bif m_cmp .eq what 7 then ((s 123 37, s)) else (bif m_cmp .eq what 8 then ((s 123 46, s)) else (((-2), s)))))))) (by rfl) (fun cs2 => ?_) (fun cs2 => ?_)
      · skip
        refine UP.swT 2 rfl cs2 (by decide) (by decide) ?_
        refine UP.stp 2 (i1 := 4) (L1 := [some (.ref 123), some (.int what)]) (st1 := [.int what, .ref 123]) (s1 := s) rfl ?_
        refine UP.cB (M1 := m_X7_tellOf) (as := [.ref 123, .int what]) (rest := []) (T := F_tellOf s what) rfl rfl (ux_tellOf s what) (fun z8 e8 => ?_)
        exact UP.ret (r := some (.int z8.1)) rfl ⟨by subst e8; rfl, by subst e8; rfl⟩
      · skip
        refine UP.spl (m_cmp .eq what 3) ((((s 124 0) + (s 124 1)) + (s 124 2), s)) (bif m_cmp .eq what 4 then ((s 123 11, s)) else (bif m_cmp .eq what 5 then ((s 123 9, s)) else (bif m_cmp .eq what 6 then ((s 123 10, s)) else (bif m_cmp .eq what 7 then ((s 123 37, s)) else (bif m_cmp .eq what 8 then ((s 123 46, s)) else (((-2), s))))))) (by rfl) (fun cs3 => ?_) (fun cs3 => ?_)
        · skip
          refine UP.swT 3 rfl cs3 (by decide) (by decide) ?_
          refine UP.stp 14 (i1 := 20) (L1 := [some (.ref 123), some (.int what)]) (st1 := [.int (((s 124 0) + (s 124 1)) + (s 124 2))]) (s1 := s) rfl ?_
          exact UP.ret (r := some (.int (((s 124 0) + (s 124 1)) + (s 124 2)))) rfl ⟨by rfl, by rfl⟩
        · skip
          refine UP.spl (m_cmp .eq what 4) ((s 123 11, s)) (bif m_cmp .eq what 5 then ((s 123 9, s)) else (bif m_cmp .eq what 6 then ((s 123 10, s)) else (bif m_cmp .eq what 7 then ((s 123 37, s)) else (bif m_cmp .eq what 8 then ((s 123 46, s)) else (((-2), s)))))) (by rfl) (fun cs4 => ?_) (fun cs4 => ?_)
          · skip
            refine UP.swT 4 rfl cs4 (by decide) (by decide) ?_
            refine UP.stp 2 (i1 := 23) (L1 := [some (.ref 123), some (.int what)]) (st1 := [.int (s 123 11)]) (s1 := s) rfl ?_
            exact UP.ret (r := some (.int (s 123 11))) rfl ⟨by rfl, by rfl⟩
          · skip
            refine UP.spl (m_cmp .eq what 5) ((s 123 9, s)) (bif m_cmp .eq what 6 then ((s 123 10, s)) else (bif m_cmp .eq what 7 then ((s 123 37, s)) else (bif m_cmp .eq what 8 then ((s 123 46, s)) else (((-2), s))))) (by rfl) (fun cs5 => ?_) (fun cs5 => ?_)
            · skip
              refine UP.swT 5 rfl cs5 (by decide) (by decide) ?_
              refine UP.stp 2 (i1 := 26) (L1 := [some (.ref 123), some (.int what)]) (st1 := [.int (s 123 9)]) (s1 := s) rfl ?_
              exact UP.ret (r := some (.int (s 123 9))) rfl ⟨by rfl, by rfl⟩
            · skip
              refine UP.spl (m_cmp .eq what 6) ((s 123 10, s)) (bif m_cmp .eq what 7 then ((s 123 37, s)) else (bif m_cmp .eq what 8 then ((s 123 46, s)) else (((-2), s)))) (by rfl) (fun cs6 => ?_) (fun cs6 => ?_)
              · skip
                refine UP.swT 6 rfl cs6 (by decide) (by decide) ?_
                refine UP.stp 2 (i1 := 29) (L1 := [some (.ref 123), some (.int what)]) (st1 := [.int (s 123 10)]) (s1 := s) rfl ?_
                exact UP.ret (r := some (.int (s 123 10))) rfl ⟨by rfl, by rfl⟩
              · skip
                refine UP.spl (m_cmp .eq what 7) ((s 123 37, s)) (bif m_cmp .eq what 8 then ((s 123 46, s)) else (((-2), s))) (by rfl) (fun cs7 => ?_) (fun cs7 => ?_)
                · skip
                  refine UP.swT 7 rfl cs7 (by decide) (by decide) ?_
                  refine UP.stp 2 (i1 := 32) (L1 := [some (.ref 123), some (.int what)]) (st1 := [.int (s 123 37)]) (s1 := s) rfl ?_
                  exact UP.ret (r := some (.int (s 123 37))) rfl ⟨by rfl, by rfl⟩
                · skip
                  refine UP.spl (m_cmp .eq what 8) ((s 123 46, s)) (((-2), s)) (by rfl) (fun cs8 => ?_) (fun cs8 => ?_)
                  · skip
                    refine UP.swT 8 rfl cs8 (by decide) (by decide) ?_
                    refine UP.stp 2 (i1 := 35) (L1 := [some (.ref 123), some (.int what)]) (st1 := [.int (s 123 46)]) (s1 := s) rfl ?_
                    exact UP.ret (r := some (.int (s 123 46))) rfl ⟨by rfl, by rfl⟩
                  · skip
                    refine UP.swD rfl (by have c0_ : what.toInt ≠ 0 := ne_int cs0; have c1_ : what.toInt ≠ 1 := ne_int cs1; have c2_ : what.toInt ≠ 2 := ne_int cs2; have c3_ : what.toInt ≠ 3 := ne_int cs3; have c4_ : what.toInt ≠ 4 := ne_int cs4; have c5_ : what.toInt ≠ 5 := ne_int cs5; have c6_ : what.toInt ≠ 6 := ne_int cs6; have c7_ : what.toInt ≠ 7 := ne_int cs7; have c8_ : what.toInt ≠ 8 := ne_int cs8; omega) ?_
                    refine UP.stp 1 (i1 := 37) (L1 := [some (.ref 123), some (.int what)]) (st1 := [.int (-2)]) (s1 := s) rfl ?_
                    exact UP.ret (r := some (.int (-2))) rfl ⟨by rfl, by rfl⟩
