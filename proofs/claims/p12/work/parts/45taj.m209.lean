def W_fault : List (Nat × Nat × Option Nat) := [(126, 129, none), (123, 123, some 2), (123, 123, some 5), (123, 123, some 7)]
def F_fault (s : SG) (text : Int32) : Int32 × SG := let w3 := bif m_cmp .eq (F_isText s text) 0 then ((-2 : Int32), s) else (F_faultOf s text); w3
theorem fr_fault (s : SG) (text : Int32)  : Fr W_fault s (F_fault s text).2 := by dsimp only [F_fault]; exact (Fr.bifp (b := m_cmp .eq (F_isText s text) 0) (x := ((-2 : Int32), s)) (y := (F_faultOf s text)) (fun x : Int32 × SG => x.2) (Fr.rf _ _) (Fr.tr (s1 := s) (Fr.rf _ _) (Fr.wk (W2 := W_fault) (fr_faultOf s text) (by rfl))))
theorem ux_fault (s : SG) (text : Int32)  : UP m_X7_fault 0 (m_ent 2 [.ref 123, .int text]) [] s (Qb (F_fault s text)) := by
  refine UP.stp 1 (i1 := 1) (L1 := [some (.ref 123), some (.int text)]) (st1 := [.int text]) (s1 := s) rfl ?_
  refine UP.cI (M1 := m_X7_isText) (as := [.int text]) (rest := []) (T := F_isText s text) rfl rfl (ux_isText s text) ?_
  refine mrg (m_cmp .eq (F_isText s text) 0) ((-2 : Int32), s) (F_faultOf s text) (fun w3 : Int32 × SG => UP m_X7_fault 8 [some (.ref 123), some (.int text)] [.int w3.1] w3.2 (Qb (F_fault s text))) (fun cc kk => ?_) (fun cc kk => ?_) (fun w3 e3 => ?_)
  · skip
    refine UP.ifT rfl cc ?_
    refine UP.stp 1 (i1 := 8) (L1 := [some (.ref 123), some (.int text)]) (st1 := [.int (-2)]) (s1 := s) rfl ?_
    exact kk
  · skip
    refine UP.ifF rfl cc ?_
    refine UP.stp 2 (i1 := 5) (L1 := [some (.ref 123), some (.int text)]) (st1 := [.int text, .ref 123]) (s1 := s) rfl ?_
    refine UP.cB (M1 := m_X7_faultOf) (as := [.ref 123, .int text]) (rest := []) (T := F_faultOf s text) rfl rfl (ux_faultOf s text) (fun z2 e2 => ?_)
    refine UP.stp 1 (i1 := 8) (L1 := [some (.ref 123), some (.int text)]) (st1 := [.int z2.1]) (s1 := z2.2) rfl ?_
    subst e2
    exact kk
  exact UP.ret (r := some (.int w3.1)) rfl ⟨by subst e3; rfl, by subst e3; rfl⟩
def W_isRower : List (Nat × Nat × Option Nat) := [(126, 129, none), (123, 123, some 2), (123, 123, some 5), (123, 123, some 7)]
def F_isRower (s : SG) (k : Int32) : Int32 × SG := let z1 := F_reads s ; (F_in z1 k 0 ((z1 123 2) - 1), z1)
theorem fr_isRower (s : SG) (k : Int32)  : Fr W_isRower s (F_isRower s k).2 := by dsimp only [F_isRower]; exact (Fr.tr (s1 := s) (Fr.rf _ _) (Fr.wk (W2 := W_isRower) (fr_reads s ) (by rfl)))
theorem ux_isRower (s : SG) (k : Int32)  : UP m_X7_isRower 0 (m_ent 2 [.ref 123, .int k]) [] s (Qb (F_isRower s k)) := by
  refine UP.stp 1 (i1 := 1) (L1 := [some (.ref 123), some (.int k)]) (st1 := [.ref 123]) (s1 := s) rfl ?_
  refine UP.cV (M1 := m_X7_reads) (as := [.ref 123]) (rest := []) (T := F_reads s ) rfl rfl (ux_reads s ) (fun z1 e1 => ?_)
  refine UP.stp 6 (i1 := 8) (L1 := [some (.ref 123), some (.int k)]) (st1 := [.int ((z1 123 2) - 1), .int 0, .int k]) (s1 := z1) rfl ?_
  refine UP.cI (M1 := m_X7_in) (as := [.int k, .int 0, .int ((z1 123 2) - 1)]) (rest := []) (T := F_in z1 k 0 ((z1 123 2) - 1)) rfl rfl (ux_in z1 k 0 ((z1 123 2) - 1)) ?_
  exact UP.ret (r := some (.int (F_in z1 k 0 ((z1 123 2) - 1)))) rfl ⟨by subst e1; rfl, by subst e1; rfl⟩
