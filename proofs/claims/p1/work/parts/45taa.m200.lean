/-! the model: reading, as functions (printed by wip/u/mk_m2.py) -/
def W_in : List (Nat × Nat × Option Nat) := []
def F_in (s : SG) (v : Int32) (lo : Int32) (hi : Int32) : Int32 := let v2 := bif m_cmp .lt v lo then (0 : Int32) else (bif m_cmp .gt v hi then (0 : Int32) else (1 : Int32)); v2
set_option maxRecDepth 20000 in
set_option maxHeartbeats 200000 in
theorem ux_in (s : SG) (v : Int32) (lo : Int32) (hi : Int32)  : UP m_X7_in 0 (m_ent 3 [.int v, .int lo, .int hi]) [] s (Qi s (F_in s v lo hi)) := by
  refine UP.stp 2 (i1 := 2) (L1 := [some (.int v), some (.int lo), some (.int hi)]) (st1 := [.int lo, .int v]) (s1 := s) rfl ?_
  refine mrg (m_cmp .lt v lo) (0 : Int32) (bif m_cmp .gt v hi then (0 : Int32) else (1 : Int32)) (fun v2 : Int32 => UP m_X7_in 9 [some (.int v), some (.int lo), some (.int hi)] [.int v2] s (Qi s (F_in s v lo hi))) (fun cc kk => ?_) (fun cc kk => ?_) (fun v2 e2 => ?_)
  · skip
    refine UP.icT rfl cc ?_
    refine UP.stp 1 (i1 := 9) (L1 := [some (.int v), some (.int lo), some (.int hi)]) (st1 := [.int 0]) (s1 := s) rfl ?_
    exact kk
  · skip
    refine UP.icF rfl cc ?_
    refine UP.stp 2 (i1 := 5) (L1 := [some (.int v), some (.int lo), some (.int hi)]) (st1 := [.int hi, .int v]) (s1 := s) rfl ?_
    refine mrg (m_cmp .gt v hi) (0 : Int32) (1 : Int32) (fun v1 : Int32 => UP m_X7_in 9 [some (.int v), some (.int lo), some (.int hi)] [.int v1] s (Qi s (F_in s v lo hi))) (fun cc kk => ?_) (fun cc kk => ?_) (fun v1 e1 => ?_)
    · skip
      refine UP.icT rfl cc ?_
      refine UP.stp 1 (i1 := 9) (L1 := [some (.int v), some (.int lo), some (.int hi)]) (st1 := [.int 0]) (s1 := s) rfl ?_
      exact kk
    · skip
      refine UP.icF rfl cc ?_
      refine UP.stp 2 (i1 := 9) (L1 := [some (.int v), some (.int lo), some (.int hi)]) (st1 := [.int 1]) (s1 := s) rfl ?_
      exact kk
    subst e1
    exact kk
  exact UP.ret (r := some (.int v2)) rfl ⟨by subst e2; first | (dsimp only [F_in]; done) | (dsimp only; done) | rfl, by subst e2; first | (dsimp only [F_in]; done) | (dsimp only; done) | rfl⟩
def W_byteAt_0 : List (Nat × Nat × Option Nat) := []
def F_byteAt_0 (s : SG) (k : Int32) : Int32 := let v1 := bif m_cmp .ge k (s 124 0) then (-1 : Int32) else s 125 (((24 * 0) + k).toNatClampNeg); v1
set_option maxRecDepth 20000 in
set_option maxHeartbeats 200000 in
theorem ux_byteAt_0 (s : SG) (k : Int32)  : UP m_X7_byteAt 0 (m_ent 3 [.ref 123, .int 0, .int k]) [] s (Qi s (F_byteAt_0 s k)) := by
  refine UP.stp 5 (i1 := 5) (L1 := [some (.ref 123), some (.int 0), some (.int k)]) (st1 := [.int (s 124 0), .int k]) (s1 := s) rfl ?_
  refine mrg (m_cmp .ge k (s 124 0)) (-1 : Int32) (s 125 (((24 * 0) + k).toNatClampNeg)) (fun v1 : Int32 => UP m_X7_byteAt 16 [some (.ref 123), some (.int 0), some (.int k)] [.int v1] s (Qi s (F_byteAt_0 s k))) (fun cc kk => ?_) (fun cc kk => ?_) (fun v1 e1 => ?_)
  · skip
    refine UP.icT rfl cc ?_
    refine UP.stp 1 (i1 := 16) (L1 := [some (.ref 123), some (.int 0), some (.int k)]) (st1 := [.int (-1)]) (s1 := s) rfl ?_
    exact kk
  · skip
    refine UP.icF rfl cc ?_
    refine UP.stp 9 (i1 := 16) (L1 := [some (.ref 123), some (.int 0), some (.int k)]) (st1 := [.int (s 125 (((24 * 0) + k).toNatClampNeg))]) (s1 := s) rfl ?_
    exact kk
  exact UP.ret (r := some (.int v1)) rfl ⟨by subst e1; first | (dsimp only [F_byteAt_0]; done) | (dsimp only; done) | rfl, by subst e1; first | (dsimp only [F_byteAt_0]; done) | (dsimp only; done) | rfl⟩
def W_byteAt_1 : List (Nat × Nat × Option Nat) := []
def F_byteAt_1 (s : SG) (k : Int32) : Int32 := let v1 := bif m_cmp .ge k (s 124 1) then (-1 : Int32) else s 125 (((24 * 1) + k).toNatClampNeg); v1
set_option maxRecDepth 20000 in
set_option maxHeartbeats 200000 in
theorem ux_byteAt_1 (s : SG) (k : Int32)  : UP m_X7_byteAt 0 (m_ent 3 [.ref 123, .int 1, .int k]) [] s (Qi s (F_byteAt_1 s k)) := by
  refine UP.stp 5 (i1 := 5) (L1 := [some (.ref 123), some (.int 1), some (.int k)]) (st1 := [.int (s 124 1), .int k]) (s1 := s) rfl ?_
  refine mrg (m_cmp .ge k (s 124 1)) (-1 : Int32) (s 125 (((24 * 1) + k).toNatClampNeg)) (fun v1 : Int32 => UP m_X7_byteAt 16 [some (.ref 123), some (.int 1), some (.int k)] [.int v1] s (Qi s (F_byteAt_1 s k))) (fun cc kk => ?_) (fun cc kk => ?_) (fun v1 e1 => ?_)
  · skip
    refine UP.icT rfl cc ?_
    refine UP.stp 1 (i1 := 16) (L1 := [some (.ref 123), some (.int 1), some (.int k)]) (st1 := [.int (-1)]) (s1 := s) rfl ?_
    exact kk
  · skip
    refine UP.icF rfl cc ?_
    refine UP.stp 9 (i1 := 16) (L1 := [some (.ref 123), some (.int 1), some (.int k)]) (st1 := [.int (s 125 (((24 * 1) + k).toNatClampNeg))]) (s1 := s) rfl ?_
    exact kk
  exact UP.ret (r := some (.int v1)) rfl ⟨by subst e1; first | (dsimp only [F_byteAt_1]; done) | (dsimp only; done) | rfl, by subst e1; first | (dsimp only [F_byteAt_1]; done) | (dsimp only; done) | rfl⟩
def W_byteAt_2 : List (Nat × Nat × Option Nat) := []
def F_byteAt_2 (s : SG) (k : Int32) : Int32 := let v1 := bif m_cmp .ge k (s 124 2) then (-1 : Int32) else s 125 (((24 * 2) + k).toNatClampNeg); v1
set_option maxRecDepth 20000 in
set_option maxHeartbeats 200000 in
theorem ux_byteAt_2 (s : SG) (k : Int32)  : UP m_X7_byteAt 0 (m_ent 3 [.ref 123, .int 2, .int k]) [] s (Qi s (F_byteAt_2 s k)) := by
  refine UP.stp 5 (i1 := 5) (L1 := [some (.ref 123), some (.int 2), some (.int k)]) (st1 := [.int (s 124 2), .int k]) (s1 := s) rfl ?_
  refine mrg (m_cmp .ge k (s 124 2)) (-1 : Int32) (s 125 (((24 * 2) + k).toNatClampNeg)) (fun v1 : Int32 => UP m_X7_byteAt 16 [some (.ref 123), some (.int 2), some (.int k)] [.int v1] s (Qi s (F_byteAt_2 s k))) (fun cc kk => ?_) (fun cc kk => ?_) (fun v1 e1 => ?_)
  · skip
    refine UP.icT rfl cc ?_
    refine UP.stp 1 (i1 := 16) (L1 := [some (.ref 123), some (.int 2), some (.int k)]) (st1 := [.int (-1)]) (s1 := s) rfl ?_
    exact kk
  · skip
    refine UP.icF rfl cc ?_
    refine UP.stp 9 (i1 := 16) (L1 := [some (.ref 123), some (.int 2), some (.int k)]) (st1 := [.int (s 125 (((24 * 2) + k).toNatClampNeg))]) (s1 := s) rfl ?_
    exact kk
  exact UP.ret (r := some (.int v1)) rfl ⟨by subst e1; first | (dsimp only [F_byteAt_2]; done) | (dsimp only; done) | rfl, by subst e1; first | (dsimp only [F_byteAt_2]; done) | (dsimp only; done) | rfl⟩
