def W_faultOf : List (Nat × Nat × Option Nat) := [(126, 129, none), (123, 123, some 2), (123, 123, some 5), (123, 123, some 7)]
def F_faultOf (s : SG) (text : Int32) : Int32 × SG := let z1 := F_readsCrew s ; let z2 := F_readsRates z1.2 ; let z3 := F_readsRudder z2.2 ; let v5 := bif m_cmp .ne text 0 then (bif m_cmp .ne text 1 then z3.1 else z2.1) else z1.1; (v5, z3.2)
set_option maxRecDepth 20000 in
set_option maxHeartbeats 200000 in
theorem fr_faultOf (s : SG) (text : Int32)  : Fr W_faultOf s (F_faultOf s text).2 := by dsimp only [F_faultOf]; exact (let z1 : Int32 × SG := F_readsCrew s ; (let z2 : Int32 × SG := F_readsRates z1.2 ; (Fr.tr (s1 := z2.2) (Fr.tr (s1 := z1.2) (Fr.tr (s1 := s) (Fr.rf _ _) (Fr.wk (W2 := W_faultOf) (fr_readsCrew s ) (by rfl))) (Fr.wk (W2 := W_faultOf) (fr_readsRates z1.2 ) (by rfl))) (Fr.wk (W2 := W_faultOf) (fr_readsRudder z2.2 ) (by rfl)))))
set_option maxRecDepth 20000 in
set_option maxHeartbeats 200000 in
theorem ux_faultOf (s : SG) (text : Int32)  : UP m_X7_faultOf 0 (m_ent 5 [.ref 123, .int text]) [] s (Qb (F_faultOf s text)) := by
  refine UP.stp 1 (i1 := 1) (L1 := [some (.ref 123), some (.int text), none, none, none]) (st1 := [.ref 123]) (s1 := s) rfl ?_
  refine UP.cB (M1 := m_X7_readsCrew) (as := [.ref 123]) (rest := []) (T := F_readsCrew s ) rfl rfl (ux_readsCrew s ) (fun z1 e1 => ?_)
  refine UP.stp 2 (i1 := 4) (L1 := [some (.ref 123), some (.int text), some (.int z1.1), none, none]) (st1 := [.ref 123]) (s1 := z1.2) rfl ?_
  refine UP.cB (M1 := m_X7_readsRates) (as := [.ref 123]) (rest := []) (T := F_readsRates z1.2 ) rfl rfl (ux_readsRates z1.2 ) (fun z2 e2 => ?_)
  refine UP.stp 2 (i1 := 7) (L1 := [some (.ref 123), some (.int text), some (.int z1.1), some (.int z2.1), none]) (st1 := [.ref 123]) (s1 := z2.2) rfl ?_
  refine UP.cB (M1 := m_X7_readsRudder) (as := [.ref 123]) (rest := []) (T := F_readsRudder z2.2 ) rfl rfl (ux_readsRudder z2.2 ) (fun z3 e3 => ?_)
  refine UP.stp 2 (i1 := 10) (L1 := [some (.ref 123), some (.int text), some (.int z1.1), some (.int z2.1), some (.int z3.1)]) (st1 := [.int text]) (s1 := z3.2) rfl ?_
  refine mrg (m_cmp .ne text 0) (bif m_cmp .ne text 1 then z3.1 else z2.1) z1.1 (fun v5 : Int32 => UP m_X7_faultOf 19 [some (.ref 123), some (.int text), some (.int z1.1), some (.int z2.1), some (.int z3.1)] [.int v5] z3.2 (Qb (F_faultOf s text))) (fun cc kk => ?_) (fun cc kk => ?_) (fun v5 e5 => ?_)
  · skip
    refine UP.ifT rfl cc ?_
    refine UP.stp 2 (i1 := 15) (L1 := [some (.ref 123), some (.int text), some (.int z1.1), some (.int z2.1), some (.int z3.1)]) (st1 := [.int 1, .int text]) (s1 := z3.2) rfl ?_
    refine mrg (m_cmp .ne text 1) z3.1 z2.1 (fun v4 : Int32 => UP m_X7_faultOf 19 [some (.ref 123), some (.int text), some (.int z1.1), some (.int z2.1), some (.int z3.1)] [.int v4] z3.2 (Qb (F_faultOf s text))) (fun cc kk => ?_) (fun cc kk => ?_) (fun v4 e4 => ?_)
    · skip
      refine UP.icT rfl cc ?_
      refine UP.stp 1 (i1 := 19) (L1 := [some (.ref 123), some (.int text), some (.int z1.1), some (.int z2.1), some (.int z3.1)]) (st1 := [.int z3.1]) (s1 := z3.2) rfl ?_
      exact kk
    · skip
      refine UP.icF rfl cc ?_
      refine UP.stp 2 (i1 := 19) (L1 := [some (.ref 123), some (.int text), some (.int z1.1), some (.int z2.1), some (.int z3.1)]) (st1 := [.int z2.1]) (s1 := z3.2) rfl ?_
      exact kk
    subst e4
    exact kk
  · skip
    refine UP.ifF rfl cc ?_
    refine UP.stp 2 (i1 := 19) (L1 := [some (.ref 123), some (.int text), some (.int z1.1), some (.int z2.1), some (.int z3.1)]) (st1 := [.int z1.1]) (s1 := z3.2) rfl ?_
    exact kk
  exact UP.ret (r := some (.int v5)) rfl ⟨by subst e5 e3 e2 e1; first | (dsimp only [F_faultOf]; done) | (dsimp only; done) | rfl, by subst e5 e3 e2 e1; first | (dsimp only [F_faultOf]; done) | (dsimp only; done) | rfl⟩
def W_reads : List (Nat × Nat × Option Nat) := [(126, 129, none), (123, 123, some 2), (123, 123, some 5), (123, 123, some 7)]
def F_reads (s : SG)  : SG := let z1 := F_faultOf s 0; z1.2
set_option maxRecDepth 20000 in
set_option maxHeartbeats 200000 in
theorem fr_reads (s : SG)   : Fr W_reads s (F_reads s) := by dsimp only [F_reads]; exact (Fr.tr (s1 := s) (Fr.rf _ _) (Fr.wk (W2 := W_reads) (fr_faultOf s 0) (by rfl)))
set_option maxRecDepth 20000 in
set_option maxHeartbeats 200000 in
theorem ux_reads (s : SG)   : UP m_X7_reads 0 (m_ent 2 [.ref 123]) [] s (Qv (F_reads s)) := by
  refine UP.stp 2 (i1 := 2) (L1 := [some (.ref 123), none]) (st1 := [.int 0, .ref 123]) (s1 := s) rfl ?_
  refine UP.cB (M1 := m_X7_faultOf) (as := [.ref 123, .int 0]) (rest := []) (T := F_faultOf s 0) rfl rfl (ux_faultOf s 0) (fun z1 e1 => ?_)
  refine UP.stp 1 (i1 := 4) (L1 := [some (.ref 123), some (.int z1.1)]) (st1 := []) (s1 := z1.2) rfl ?_
  exact UP.ret (r := none) rfl ⟨by subst e1; first | (dsimp only [F_reads]; done) | (dsimp only; done) | rfl, by subst e1; first | (dsimp only [F_reads]; done) | (dsimp only; done) | rfl⟩
def W_isText : List (Nat × Nat × Option Nat) := []
def F_isText (s : SG) (v : Int32) : Int32 := F_in s v 0 2
set_option maxRecDepth 20000 in
set_option maxHeartbeats 200000 in
theorem ux_isText (s : SG) (v : Int32)  : UP m_X7_isText 0 (m_ent 1 [.int v]) [] s (Qi s (F_isText s v)) := by
  refine UP.stp 3 (i1 := 3) (L1 := [some (.int v)]) (st1 := [.int 2, .int 0, .int v]) (s1 := s) rfl ?_
  refine UP.cI (M1 := m_X7_in) (as := [.int v, .int 0, .int 2]) (rest := []) (T := F_in s v 0 2) rfl rfl (ux_in s v 0 2) ?_
  exact UP.ret (r := some (.int (F_in s v 0 2))) rfl ⟨by first | (dsimp only [F_isText]; done) | (dsimp only; done) | rfl, by first | (dsimp only [F_isText]; done) | (dsimp only; done) | rfl⟩
def W_isMinute : List (Nat × Nat × Option Nat) := []
def F_isMinute (s : SG) (v : Int32) : Int32 := F_in s v 0 23
set_option maxRecDepth 20000 in
set_option maxHeartbeats 200000 in
theorem ux_isMinute (s : SG) (v : Int32)  : UP m_X7_isMinute 0 (m_ent 1 [.int v]) [] s (Qi s (F_isMinute s v)) := by
  refine UP.stp 3 (i1 := 3) (L1 := [some (.int v)]) (st1 := [.int 23, .int 0, .int v]) (s1 := s) rfl ?_
  refine UP.cI (M1 := m_X7_in) (as := [.int v, .int 0, .int 23]) (rest := []) (T := F_in s v 0 23) rfl rfl (ux_in s v 0 23) ?_
  exact UP.ret (r := some (.int (F_in s v 0 23))) rfl ⟨by first | (dsimp only [F_isMinute]; done) | (dsimp only; done) | rfl, by first | (dsimp only [F_isMinute]; done) | (dsimp only; done) | rfl⟩
def W_isTwo : List (Nat × Nat × Option Nat) := []
def F_isTwo (s : SG) (v : Int32) : Int32 := F_in s v 0 1
set_option maxRecDepth 20000 in
set_option maxHeartbeats 200000 in
theorem ux_isTwo (s : SG) (v : Int32)  : UP m_X7_isTwo 0 (m_ent 1 [.int v]) [] s (Qi s (F_isTwo s v)) := by
  refine UP.stp 3 (i1 := 3) (L1 := [some (.int v)]) (st1 := [.int 1, .int 0, .int v]) (s1 := s) rfl ?_
  refine UP.cI (M1 := m_X7_in) (as := [.int v, .int 0, .int 1]) (rest := []) (T := F_in s v 0 1) rfl rfl (ux_in s v 0 1) ?_
  exact UP.ret (r := some (.int (F_in s v 0 1))) rfl ⟨by first | (dsimp only [F_isTwo]; done) | (dsimp only; done) | rfl, by first | (dsimp only [F_isTwo]; done) | (dsimp only; done) | rfl⟩
def W_isThree : List (Nat × Nat × Option Nat) := []
def F_isThree (s : SG) (v : Int32) : Int32 := F_in s v 0 2
set_option maxRecDepth 20000 in
set_option maxHeartbeats 200000 in
theorem ux_isThree (s : SG) (v : Int32)  : UP m_X7_isThree 0 (m_ent 1 [.int v]) [] s (Qi s (F_isThree s v)) := by
  refine UP.stp 3 (i1 := 3) (L1 := [some (.int v)]) (st1 := [.int 2, .int 0, .int v]) (s1 := s) rfl ?_
  refine UP.cI (M1 := m_X7_in) (as := [.int v, .int 0, .int 2]) (rest := []) (T := F_in s v 0 2) rfl rfl (ux_in s v 0 2) ?_
  exact UP.ret (r := some (.int (F_in s v 0 2))) rfl ⟨by first | (dsimp only [F_isThree]; done) | (dsimp only; done) | rfl, by first | (dsimp only [F_isThree]; done) | (dsimp only; done) | rfl⟩
def W_isEight : List (Nat × Nat × Option Nat) := []
def F_isEight (s : SG) (v : Int32) : Int32 := F_in s v 0 7
set_option maxRecDepth 20000 in
set_option maxHeartbeats 200000 in
theorem ux_isEight (s : SG) (v : Int32)  : UP m_X7_isEight 0 (m_ent 1 [.int v]) [] s (Qi s (F_isEight s v)) := by
  refine UP.stp 3 (i1 := 3) (L1 := [some (.int v)]) (st1 := [.int 7, .int 0, .int v]) (s1 := s) rfl ?_
  refine UP.cI (M1 := m_X7_in) (as := [.int v, .int 0, .int 7]) (rest := []) (T := F_in s v 0 7) rfl rfl (ux_in s v 0 7) ?_
  exact UP.ret (r := some (.int (F_in s v 0 7))) rfl ⟨by first | (dsimp only [F_isEight]; done) | (dsimp only; done) | rfl, by first | (dsimp only [F_isEight]; done) | (dsimp only; done) | rfl⟩
def W_isSheet : List (Nat × Nat × Option Nat) := []
def F_isSheet (s : SG) (v : Int32) : Int32 := F_in s v 0 3
set_option maxRecDepth 20000 in
set_option maxHeartbeats 200000 in
theorem ux_isSheet (s : SG) (v : Int32)  : UP m_X7_isSheet 0 (m_ent 1 [.int v]) [] s (Qi s (F_isSheet s v)) := by
  refine UP.stp 3 (i1 := 3) (L1 := [some (.int v)]) (st1 := [.int 3, .int 0, .int v]) (s1 := s) rfl ?_
  refine UP.cI (M1 := m_X7_in) (as := [.int v, .int 0, .int 3]) (rest := []) (T := F_in s v 0 3) rfl rfl (ux_in s v 0 3) ?_
  exact UP.ret (r := some (.int (F_in s v 0 3))) rfl ⟨by first | (dsimp only [F_isSheet]; done) | (dsimp only; done) | rfl, by first | (dsimp only [F_isSheet]; done) | (dsimp only; done) | rfl⟩
def W_fault : List (Nat × Nat × Option Nat) := [(126, 129, none), (123, 123, some 2), (123, 123, some 5), (123, 123, some 7)]
def F_fault (s : SG) (text : Int32) : Int32 × SG := let w3 := bif m_cmp .eq (F_isText s text) 0 then ((-2 : Int32), s) else (F_faultOf s text); w3
set_option maxRecDepth 20000 in
set_option maxHeartbeats 200000 in
theorem fr_fault (s : SG) (text : Int32)  : Fr W_fault s (F_fault s text).2 := by dsimp only [F_fault]; exact (Fr.bifp (b := m_cmp .eq (F_isText s text) 0) (x := ((-2 : Int32), s)) (y := (F_faultOf s text)) (fun x : Int32 × SG => x.2) (by (try dsimp only); exact (Fr.rf _ _)) (by (try dsimp only); exact (Fr.tr (s1 := s) (Fr.rf _ _) (Fr.wk (W2 := W_fault) (fr_faultOf s text) (by rfl)))))
set_option maxRecDepth 20000 in
set_option maxHeartbeats 200000 in
theorem ux_fault (s : SG) (text : Int32)  : UP m_X7_fault 0 (m_ent 2 [.ref 123, .int text]) [] s (Qb (F_fault s text)) := by
  refine UP.stp 1 (i1 := 1) (L1 := [some (.ref 123), some (.int text)]) (st1 := [.int text]) (s1 := s) rfl ?_
  refine UP.cI (M1 := m_X7_isText) (as := [.int text]) (rest := []) (T := F_isText s text) rfl rfl (ux_isText s text) ?_
  refine mrg (m_cmp .eq (F_isText s text) 0) ((-2 : Int32), s) (F_faultOf s text) (fun w3 : Int32 × SG => UP m_X7_fault 8 [some (.ref 123), some (.int text)] [.int w3.1] w3.2 (Qb (F_fault s text))) (fun cc kk => ?_) (fun cc kk => ?_) (fun w3 e3 => ?_)
  · skip
    refine UP.ifT rfl cc ?_
    refine UP.stp 1 (i1 := 8) (L1 := [some (.ref 123), some (.int text)]) (st1 := [.int (-2)]) (s1 := s) rfl ?_
    exact kk
  · skip
    refine UP.ifF rfl cc ?_
    refine UP.stp 2 (i1 := 5) (L1 := [some (.ref 123), some (.int text)]) (st1 := [.int text, .ref 123]) (s1 := s) rfl ?_
    refine UP.cB (M1 := m_X7_faultOf) (as := [.ref 123, .int text]) (rest := []) (T := F_faultOf s text) rfl rfl (ux_faultOf s text) (fun z2 e2 => ?_)
    refine UP.stp 1 (i1 := 8) (L1 := [some (.ref 123), some (.int text)]) (st1 := [.int z2.1]) (s1 := z2.2) rfl ?_
    subst e2
    exact kk
  exact UP.ret (r := some (.int w3.1)) rfl ⟨by subst e3; first | (dsimp only [F_fault]; done) | (dsimp only; done) | rfl, by subst e3; first | (dsimp only [F_fault]; done) | (dsimp only; done) | rfl⟩
def W_isRower : List (Nat × Nat × Option Nat) := [(126, 129, none), (123, 123, some 2), (123, 123, some 5), (123, 123, some 7)]
def F_isRower (s : SG) (k : Int32) : Int32 × SG := let z1 := F_reads s ; (F_in z1 k 0 ((z1 123 2) - 1), z1)
set_option maxRecDepth 20000 in
set_option maxHeartbeats 200000 in
theorem fr_isRower (s : SG) (k : Int32)  : Fr W_isRower s (F_isRower s k).2 := by dsimp only [F_isRower]; exact (Fr.tr (s1 := s) (Fr.rf _ _) (Fr.wk (W2 := W_isRower) (fr_reads s ) (by rfl)))
set_option maxRecDepth 20000 in
set_option maxHeartbeats 200000 in
theorem ux_isRower (s : SG) (k : Int32)  : UP m_X7_isRower 0 (m_ent 2 [.ref 123, .int k]) [] s (Qb (F_isRower s k)) := by
  refine UP.stp 1 (i1 := 1) (L1 := [some (.ref 123), some (.int k)]) (st1 := [.ref 123]) (s1 := s) rfl ?_
  refine UP.cV (M1 := m_X7_reads) (as := [.ref 123]) (rest := []) (T := F_reads s ) rfl rfl (ux_reads s ) (fun z1 e1 => ?_)
  refine UP.stp 6 (i1 := 8) (L1 := [some (.ref 123), some (.int k)]) (st1 := [.int ((z1 123 2) - 1), .int 0, .int k]) (s1 := z1) rfl ?_
  refine UP.cI (M1 := m_X7_in) (as := [.int k, .int 0, .int ((z1 123 2) - 1)]) (rest := []) (T := F_in z1 k 0 ((z1 123 2) - 1)) rfl rfl (ux_in z1 k 0 ((z1 123 2) - 1)) ?_
  exact UP.ret (r := some (.int (F_in z1 k 0 ((z1 123 2) - 1)))) rfl ⟨by subst e1; first | (dsimp only [F_isRower]; done) | (dsimp only; done) | rfl, by subst e1; first | (dsimp only [F_isRower]; done) | (dsimp only; done) | rfl⟩
