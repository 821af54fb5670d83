def W_reads : List (Nat × Nat × Option Nat) := [(126, 129, none), (123, 123, some 2), (123, 123, some 5), (123, 123, some 7)]
def F_reads (s : SG)  : SG := let z1 := F_faultOf s 0; z1.2
theorem fr_reads (s : SG)   : Fr W_reads s (F_reads s) := by dsimp only [F_reads]; exact (Fr.tr (s1 := s) (Fr.rf _ _) (Fr.wk (W2 := W_reads) (fr_faultOf s 0) (by rfl)))
theorem ux_reads (s : SG)   : UP m_X7_reads 0 (m_ent 2 [.ref 123]) [] s (Qv (F_reads s)) := by
  refine UP.stp 2 (i1 := 2) (L1 := [some (.ref 123), none]) (st1 := [.int 0, .ref 123]) (s1 := s) rfl ?_
  refine UP.cB (M1 := m_X7_faultOf) (as := [.ref 123, .int 0]) (rest := []) (T := F_faultOf s 0) rfl rfl (ux_faultOf s 0) (fun z1 e1 => ?_)
  refine UP.stp 1 (i1 := 4) (L1 := [some (.ref 123), some (.int z1.1)]) (st1 := []) (s1 := z1.2) rfl ?_
  exact UP.ret (r := none) rfl ⟨by subst e1; rfl, by subst e1; rfl⟩
def W_isText : List (Nat × Nat × Option Nat) := []
def F_isText (s : SG) (v : Int32) : Int32 := F_in s v 0 2
theorem ux_isText (s : SG) (v : Int32)  : UP m_X7_isText 0 (m_ent 1 [.int v]) [] s (Qi s (F_isText s v)) := by
  refine UP.stp 3 (i1 := 3) (L1 := [some (.int v)]) (st1 := [.int 2, .int 0, .int v]) (s1 := s) rfl ?_
  refine UP.cI (M1 := m_X7_in) (as := [.int v, .int 0, .int 2]) (rest := []) (T := F_in s v 0 2) rfl rfl (ux_in s v 0 2) ?_
  exact UP.ret (r := some (.int (F_in s v 0 2))) rfl ⟨by rfl, by rfl⟩
def W_isMinute : List (Nat × Nat × Option Nat) := []
def F_isMinute (s : SG) (v : Int32) : Int32 := F_in s v 0 23
theorem ux_isMinute (s : SG) (v : Int32)  : UP m_X7_isMinute 0 (m_ent 1 [.int v]) [] s (Qi s (F_isMinute s v)) := by
  refine UP.stp 3 (i1 := 3) (L1 := [some (.int v)]) (st1 := [.int 23, .int 0, .int v]) (s1 := s) rfl ?_
  refine UP.cI (M1 := m_X7_in) (as := [.int v, .int 0, .int 23]) (rest := []) (T := F_in s v 0 23) rfl rfl (ux_in s v 0 23) ?_
  exact UP.ret (r := some (.int (F_in s v 0 23))) rfl ⟨by rfl, by rfl⟩
def W_isTwo : List (Nat × Nat × Option Nat) := []
def F_isTwo (s : SG) (v : Int32) : Int32 := F_in s v 0 1
theorem ux_isTwo (s : SG) (v : Int32)  : UP m_X7_isTwo 0 (m_ent 1 [.int v]) [] s (Qi s (F_isTwo s v)) := by
  refine UP.stp 3 (i1 := 3) (L1 := [some (.int v)]) (st1 := [.int 1, .int 0, .int v]) (s1 := s) rfl ?_
  refine UP.cI (M1 := m_X7_in) (as := [.int v, .int 0, .int 1]) (rest := []) (T := F_in s v 0 1) rfl rfl (ux_in s v 0 1) ?_
  exact UP.ret (r := some (.int (F_in s v 0 1))) rfl ⟨by rfl, by rfl⟩
def W_isThree : List (Nat × Nat × Option Nat) := []
def F_isThree (s : SG) (v : Int32) : Int32 := F_in s v 0 2
theorem ux_isThree (s : SG) (v : Int32)  : UP m_X7_isThree 0 (m_ent 1 [.int v]) [] s (Qi s (F_isThree s v)) := by
  refine UP.stp 3 (i1 := 3) (L1 := [some (.int v)]) (st1 := [.int 2, .int 0, .int v]) (s1 := s) rfl ?_
  refine UP.cI (M1 := m_X7_in) (as := [.int v, .int 0, .int 2]) (rest := []) (T := F_in s v 0 2) rfl rfl (ux_in s v 0 2) ?_
  exact UP.ret (r := some (.int (F_in s v 0 2))) rfl ⟨by rfl, by rfl⟩
def W_isEight : List (Nat × Nat × Option Nat) := []
def F_isEight (s : SG) (v : Int32) : Int32 := F_in s v 0 7
theorem ux_isEight (s : SG) (v : Int32)  : UP m_X7_isEight 0 (m_ent 1 [.int v]) [] s (Qi s (F_isEight s v)) := by
  refine UP.stp 3 (i1 := 3) (L1 := [some (.int v)]) (st1 := [.int 7, .int 0, .int v]) (s1 := s) rfl ?_
  refine UP.cI (M1 := m_X7_in) (as := [.int v, .int 0, .int 7]) (rest := []) (T := F_in s v 0 7) rfl rfl (ux_in s v 0 7) ?_
  exact UP.ret (r := some (.int (F_in s v 0 7))) rfl ⟨by rfl, by rfl⟩
def W_isSheet : List (Nat × Nat × Option Nat) := []
def F_isSheet (s : SG) (v : Int32) : Int32 := F_in s v 0 3
theorem ux_isSheet (s : SG) (v : Int32)  : UP m_X7_isSheet 0 (m_ent 1 [.int v]) [] s (Qi s (F_isSheet s v)) := by
  refine UP.stp 3 (i1 := 3) (L1 := [some (.int v)]) (st1 := [.int 3, .int 0, .int v]) (s1 := s) rfl ?_
  refine UP.cI (M1 := m_X7_in) (as := [.int v, .int 0, .int 3]) (rest := []) (T := F_in s v 0 3) rfl rfl (ux_in s v 0 3) ?_
  exact UP.ret (r := some (.int (F_in s v 0 3))) rfl ⟨by rfl, by rfl⟩
