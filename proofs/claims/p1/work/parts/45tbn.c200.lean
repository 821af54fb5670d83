def W_isBelow : List (Nat × Nat × Option Nat) := []
def F_isBelow (s : SG) (v : Int32) (n : Int32) : Int32 := let v2 := bif m_cmp .lt v 0 then (0 : Int32) else (bif m_cmp .ge v n then (0 : Int32) else (1 : Int32)); v2
set_option maxRecDepth 20000 in
set_option maxHeartbeats 200000 in
theorem ux_isBelow (s : SG) (v : Int32) (n : Int32)  : UP m_X6_isBelow 0 (m_ent 2 [.int v, .int n]) [] s (Qi s (F_isBelow s v n)) := by
  refine UP.stp 1 (i1 := 1) (L1 := [some (.int v), some (.int n)]) (st1 := [.int v]) (s1 := s) rfl ?_
  refine mrg (m_cmp .lt v 0) (0 : Int32) (bif m_cmp .ge v n then (0 : Int32) else (1 : Int32)) (fun v2 : Int32 => UP m_X6_isBelow 8 [some (.int v), some (.int n)] [.int v2] s (Qi s (F_isBelow s v n))) (fun cc kk => ?_) (fun cc kk => ?_) (fun v2 e2 => ?_)
  · skip
    refine UP.ifT rfl cc ?_
    refine UP.stp 1 (i1 := 8) (L1 := [some (.int v), some (.int n)]) (st1 := [.int 0]) (s1 := s) rfl ?_
    exact kk
  · skip
    refine UP.ifF rfl cc ?_
    refine UP.stp 2 (i1 := 4) (L1 := [some (.int v), some (.int n)]) (st1 := [.int n, .int v]) (s1 := s) rfl ?_
    refine mrg (m_cmp .ge v n) (0 : Int32) (1 : Int32) (fun v1 : Int32 => UP m_X6_isBelow 8 [some (.int v), some (.int n)] [.int v1] s (Qi s (F_isBelow s v n))) (fun cc kk => ?_) (fun cc kk => ?_) (fun v1 e1 => ?_)
    · skip
      refine UP.icT rfl cc ?_
      refine UP.stp 1 (i1 := 8) (L1 := [some (.int v), some (.int n)]) (st1 := [.int 0]) (s1 := s) rfl ?_
      exact kk
    · skip
      refine UP.icF rfl cc ?_
      refine UP.stp 2 (i1 := 8) (L1 := [some (.int v), some (.int n)]) (st1 := [.int 1]) (s1 := s) rfl ?_
      exact kk
    subst e1
    exact kk
  exact UP.ret (r := some (.int v2)) rfl ⟨by subst e2; first | (dsimp only [F_isBelow]; done) | (dsimp only; done) | rfl, by subst e2; first | (dsimp only [F_isBelow]; done) | (dsimp only; done) | rfl⟩
def W_hasBit : List (Nat × Nat × Option Nat) := []
def F_hasBit (s : SG) (b : Int32) (k : Int32) : Int32 := let v1 := bif m_cmp .ne ((b >>> (k &&& 31)) &&& (1 : Int32)) 1 then (0 : Int32) else (1 : Int32); v1
set_option maxRecDepth 20000 in
set_option maxHeartbeats 200000 in
theorem ux_hasBit (s : SG) (b : Int32) (k : Int32)  : UP m_X6_hasBit 0 (m_ent 2 [.int b, .int k]) [] s (Qi s (F_hasBit s b k)) := by
  refine UP.stp 6 (i1 := 6) (L1 := [some (.int b), some (.int k)]) (st1 := [.int 1, .int ((b >>> (k &&& 31)) &&& (1 : Int32))]) (s1 := s) rfl ?_
  refine mrg (m_cmp .ne ((b >>> (k &&& 31)) &&& (1 : Int32)) 1) (0 : Int32) (1 : Int32) (fun v1 : Int32 => UP m_X6_hasBit 10 [some (.int b), some (.int k)] [.int v1] s (Qi s (F_hasBit s b k))) (fun cc kk => ?_) (fun cc kk => ?_) (fun v1 e1 => ?_)
  · skip
    refine UP.icT rfl cc ?_
    refine UP.stp 1 (i1 := 10) (L1 := [some (.int b), some (.int k)]) (st1 := [.int 0]) (s1 := s) rfl ?_
    exact kk
  · skip
    refine UP.icF rfl cc ?_
    refine UP.stp 2 (i1 := 10) (L1 := [some (.int b), some (.int k)]) (st1 := [.int 1]) (s1 := s) rfl ?_
    exact kk
  exact UP.ret (r := some (.int v1)) rfl ⟨by subst e1; first | (dsimp only [F_hasBit]; done) | (dsimp only; done) | rfl, by subst e1; first | (dsimp only [F_hasBit]; done) | (dsimp only; done) | rfl⟩
def W_cisRower : List (Nat × Nat × Option Nat) := []
def F_cisRower (s : SG) (k : Int32) : Int32 := F_isBelow s k (s 10 0)
set_option maxRecDepth 20000 in
set_option maxHeartbeats 200000 in
theorem ux_cisRower (s : SG) (k : Int32)  : UP m_X6_isRower 0 (m_ent 2 [.ref 0, .int k]) [] s (Qi s (F_cisRower s k)) := by
  refine UP.stp 4 (i1 := 4) (L1 := [some (.ref 0), some (.int k)]) (st1 := [.int (s 10 0), .int k]) (s1 := s) rfl ?_
  refine UP.cI (M1 := m_X6_isBelow) (as := [.int k, .int (s 10 0)]) (rest := []) (T := F_isBelow s k (s 10 0)) rfl rfl (ux_isBelow s k (s 10 0)) ?_
  exact UP.ret (r := some (.int (F_isBelow s k (s 10 0)))) rfl ⟨by first | (dsimp only [F_cisRower]; done) | (dsimp only; done) | rfl, by first | (dsimp only [F_cisRower]; done) | (dsimp only; done) | rfl⟩
def W_find : List (Nat × Nat × Option Nat) := [(0, 0, some 4)]
def F_find (s : SG) (number : Int32) : Int32 × SG := ((-10) - number, (uset s 0 4 number))
set_option maxRecDepth 20000 in
set_option maxHeartbeats 200000 in
theorem fr_find (s : SG) (number : Int32)  : Fr W_find s (F_find s number).2 := by dsimp only [F_find]; exact (Fr.uset (s1 := s) (a := 0) (j := 4) (x := number) (by rfl) (Fr.rf _ _))
set_option maxRecDepth 20000 in
set_option maxHeartbeats 200000 in
theorem ux_find (s : SG) (number : Int32)  : UP m_X6_find 0 (m_ent 2 [.ref 0, .int number]) [] s (Qb (F_find s number)) := by
  refine UP.stp 6 (i1 := 6) (L1 := [some (.ref 0), some (.int number)]) (st1 := [.int ((-10) - number)]) (s1 := (uset s 0 4 number)) rfl ?_
  exact UP.ret (r := some (.int ((-10) - number))) rfl ⟨by first | (dsimp only [F_find]; done) | (dsimp only; done) | rfl, by first | (dsimp only [F_find]; done) | (dsimp only; done) | rfl⟩
def W_mark : List (Nat × Nat × Option Nat) := [(0, 0, some 12), (0, 0, some 13)]
def F_mark (s : SG)  : SG := (uset (uset s 0 12 1) 0 13 1)
set_option maxRecDepth 20000 in
set_option maxHeartbeats 200000 in
theorem fr_mark (s : SG)   : Fr W_mark s (F_mark s) := by dsimp only [F_mark]; exact (Fr.uset (s1 := (uset s 0 12 1)) (a := 0) (j := 13) (x := 1) (by rfl) (Fr.uset (s1 := s) (a := 0) (j := 12) (x := 1) (by rfl) (Fr.rf _ _)))
set_option maxRecDepth 20000 in
set_option maxHeartbeats 200000 in
theorem ux_mark (s : SG)   : UP m_X6_markChanged 0 (m_ent 1 [.ref 0]) [] s (Qv (F_mark s)) := by
  refine UP.stp 6 (i1 := 6) (L1 := [some (.ref 0)]) (st1 := []) (s1 := (uset (uset s 0 12 1) 0 13 1)) rfl ?_
  exact UP.ret (r := none) rfl ⟨by first | (dsimp only [F_mark]; done) | (dsimp only; done) | rfl, by first | (dsimp only [F_mark]; done) | (dsimp only; done) | rfl⟩
