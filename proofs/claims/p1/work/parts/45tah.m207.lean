def W_rowerOf : List (Nat × Nat × Option Nat) := []
def F_rowerOf (s : SG) (k : Int32) (what : Int32) : Int32 := let v1 := bif m_cmp .ne what 0 then s 127 k.toNatClampNeg else s 126 k.toNatClampNeg; v1
set_option maxRecDepth 20000 in
set_option maxHeartbeats 200000 in
theorem ux_rowerOf (s : SG) (k : Int32) (what : Int32)  : UP m_X7_rowerOf 0 (m_ent 3 [.ref 123, .int k, .int what]) [] s (Qi s (F_rowerOf s k what)) := by
  refine UP.stp 1 (i1 := 1) (L1 := [some (.ref 123), some (.int k), some (.int what)]) (st1 := [.int what]) (s1 := s) rfl ?_
  refine mrg (m_cmp .ne what 0) (s 127 k.toNatClampNeg) (s 126 k.toNatClampNeg) (fun v1 : Int32 => UP m_X7_rowerOf 11 [some (.ref 123), some (.int k), some (.int what)] [.int v1] s (Qi s (F_rowerOf s k what))) (fun cc kk => ?_) (fun cc kk => ?_) (fun v1 e1 => ?_)
  · skip
    refine UP.ifT rfl cc ?_
    refine UP.stp 4 (i1 := 11) (L1 := [some (.ref 123), some (.int k), some (.int what)]) (st1 := [.int (s 127 k.toNatClampNeg)]) (s1 := s) rfl ?_
    exact kk
  · skip
    refine UP.ifF rfl cc ?_
    refine UP.stp 5 (i1 := 11) (L1 := [some (.ref 123), some (.int k), some (.int what)]) (st1 := [.int (s 126 k.toNatClampNeg)]) (s1 := s) rfl ?_
    exact kk
  exact UP.ret (r := some (.int v1)) rfl ⟨by subst e1; first | (dsimp only [F_rowerOf]; done) | (dsimp only; done) | rfl, by subst e1; first | (dsimp only [F_rowerOf]; done) | (dsimp only; done) | rfl⟩
def W_rower : List (Nat × Nat × Option Nat) := [(126, 129, none), (123, 123, some 2), (123, 123, some 5), (123, 123, some 7)]
def F_rower (s : SG) (seat : Int32) (what : Int32) : Int32 × SG := let z1 := F_isRower s seat; let v5 := bif m_cmp .eq z1.1 0 then (-2 : Int32) else (bif m_cmp .eq (F_isTwo z1.2 what) 0 then (-2 : Int32) else F_rowerOf z1.2 seat what); (v5, z1.2)
set_option maxRecDepth 20000 in
set_option maxHeartbeats 200000 in
theorem fr_rower (s : SG) (seat : Int32) (what : Int32)  : Fr W_rower s (F_rower s seat what).2 := by dsimp only [F_rower]; exact (Fr.tr (s1 := s) (Fr.rf _ _) (Fr.wk (W2 := W_rower) (fr_isRower s seat) (by rfl)))
set_option maxRecDepth 20000 in
set_option maxHeartbeats 200000 in
theorem ux_rower (s : SG) (seat : Int32) (what : Int32)  : UP m_X7_rower 0 (m_ent 3 [.ref 123, .int seat, .int what]) [] s (Qb (F_rower s seat what)) := by
  refine UP.stp 2 (i1 := 2) (L1 := [some (.ref 123), some (.int seat), some (.int what)]) (st1 := [.int seat, .ref 123]) (s1 := s) rfl ?_
  refine UP.cB (M1 := m_X7_isRower) (as := [.ref 123, .int seat]) (rest := []) (T := F_isRower s seat) rfl rfl (ux_isRower s seat) (fun z1 e1 => ?_)
  refine mrg (m_cmp .eq z1.1 0) (-2 : Int32) (bif m_cmp .eq (F_isTwo z1.2 what) 0 then (-2 : Int32) else F_rowerOf z1.2 seat what) (fun v5 : Int32 => UP m_X7_rower 13 [some (.ref 123), some (.int seat), some (.int what)] [.int v5] z1.2 (Qb (F_rower s seat what))) (fun cc kk => ?_) (fun cc kk => ?_) (fun v5 e5 => ?_)
  · skip
    refine UP.ifT rfl cc ?_
    refine UP.stp 1 (i1 := 13) (L1 := [some (.ref 123), some (.int seat), some (.int what)]) (st1 := [.int (-2)]) (s1 := z1.2) rfl ?_
    exact kk
  · skip
    refine UP.ifF rfl cc ?_
    refine UP.stp 1 (i1 := 5) (L1 := [some (.ref 123), some (.int seat), some (.int what)]) (st1 := [.int what]) (s1 := z1.2) rfl ?_
    refine UP.cI (M1 := m_X7_isTwo) (as := [.int what]) (rest := []) (T := F_isTwo z1.2 what) rfl rfl (ux_isTwo z1.2 what) ?_
    refine mrg (m_cmp .eq (F_isTwo z1.2 what) 0) (-2 : Int32) (F_rowerOf z1.2 seat what) (fun v4 : Int32 => UP m_X7_rower 13 [some (.ref 123), some (.int seat), some (.int what)] [.int v4] z1.2 (Qb (F_rower s seat what))) (fun cc kk => ?_) (fun cc kk => ?_) (fun v4 e4 => ?_)
    · skip
      refine UP.ifT rfl cc ?_
      refine UP.stp 1 (i1 := 13) (L1 := [some (.ref 123), some (.int seat), some (.int what)]) (st1 := [.int (-2)]) (s1 := z1.2) rfl ?_
      exact kk
    · skip
      refine UP.ifF rfl cc ?_
      refine UP.stp 3 (i1 := 10) (L1 := [some (.ref 123), some (.int seat), some (.int what)]) (st1 := [.int what, .int seat, .ref 123]) (s1 := z1.2) rfl ?_
      refine UP.cI (M1 := m_X7_rowerOf) (as := [.ref 123, .int seat, .int what]) (rest := []) (T := F_rowerOf z1.2 seat what) rfl rfl (ux_rowerOf z1.2 seat what) ?_
      refine UP.stp 1 (i1 := 13) (L1 := [some (.ref 123), some (.int seat), some (.int what)]) (st1 := [.int (F_rowerOf z1.2 seat what)]) (s1 := z1.2) rfl ?_
      exact kk
    subst e4
    exact kk
  exact UP.ret (r := some (.int v5)) rfl ⟨by subst e5 e1; first | (dsimp only [F_rower]; done) | (dsimp only; done) | rfl, by subst e5 e1; first | (dsimp only [F_rower]; done) | (dsimp only; done) | rfl⟩
def W_callOf : List (Nat × Nat × Option Nat) := [(126, 129, none), (123, 123, some 2), (123, 123, some 5), (123, 123, some 7)]
def F_callOf (s : SG) (minute : Int32) (what : Int32) : Int32 × SG := let z1 := F_reads s ; let v2 := bif m_cmp .ne what 0 then z1 129 minute.toNatClampNeg else z1 128 minute.toNatClampNeg; (v2, z1)
set_option maxRecDepth 20000 in
set_option maxHeartbeats 200000 in
theorem fr_callOf (s : SG) (minute : Int32) (what : Int32)  : Fr W_callOf s (F_callOf s minute what).2 := by dsimp only [F_callOf]; exact (Fr.tr (s1 := s) (Fr.rf _ _) (Fr.wk (W2 := W_callOf) (fr_reads s ) (by rfl)))
set_option maxRecDepth 20000 in
set_option maxHeartbeats 200000 in
theorem ux_callOf (s : SG) (minute : Int32) (what : Int32)  : UP m_X7_callOf 0 (m_ent 3 [.ref 123, .int minute, .int what]) [] s (Qb (F_callOf s minute what)) := by
  refine UP.stp 1 (i1 := 1) (L1 := [some (.ref 123), some (.int minute), some (.int what)]) (st1 := [.ref 123]) (s1 := s) rfl ?_
  refine UP.cV (M1 := m_X7_reads) (as := [.ref 123]) (rest := []) (T := F_reads s ) rfl rfl (ux_reads s ) (fun z1 e1 => ?_)
  refine UP.stp 1 (i1 := 3) (L1 := [some (.ref 123), some (.int minute), some (.int what)]) (st1 := [.int what]) (s1 := z1) rfl ?_
  refine mrg (m_cmp .ne what 0) (z1 129 minute.toNatClampNeg) (z1 128 minute.toNatClampNeg) (fun v2 : Int32 => UP m_X7_callOf 13 [some (.ref 123), some (.int minute), some (.int what)] [.int v2] z1 (Qb (F_callOf s minute what))) (fun cc kk => ?_) (fun cc kk => ?_) (fun v2 e2 => ?_)
  · skip
    refine UP.ifT rfl cc ?_
    refine UP.stp 4 (i1 := 13) (L1 := [some (.ref 123), some (.int minute), some (.int what)]) (st1 := [.int (z1 129 minute.toNatClampNeg)]) (s1 := z1) rfl ?_
    exact kk
  · skip
    refine UP.ifF rfl cc ?_
    refine UP.stp 5 (i1 := 13) (L1 := [some (.ref 123), some (.int minute), some (.int what)]) (st1 := [.int (z1 128 minute.toNatClampNeg)]) (s1 := z1) rfl ?_
    exact kk
  exact UP.ret (r := some (.int v2)) rfl ⟨by subst e2 e1; first | (dsimp only [F_callOf]; done) | (dsimp only; done) | rfl, by subst e2 e1; first | (dsimp only [F_callOf]; done) | (dsimp only; done) | rfl⟩
def W_call : List (Nat × Nat × Option Nat) := [(126, 129, none), (123, 123, some 2), (123, 123, some 5), (123, 123, some 7)]
def F_call (s : SG) (minute : Int32) (what : Int32) : Int32 × SG := let w5 := bif m_cmp .eq (F_isMinute s minute) 0 then ((-2 : Int32), s) else (bif m_cmp .eq (F_isTwo s what) 0 then ((-2 : Int32), s) else (F_callOf s minute what)); w5
set_option maxRecDepth 20000 in
set_option maxHeartbeats 200000 in
theorem fr_call (s : SG) (minute : Int32) (what : Int32)  : Fr W_call s (F_call s minute what).2 := by dsimp only [F_call]; exact (Fr.bifp (b := m_cmp .eq (F_isMinute s minute) 0) (x := ((-2 : Int32), s)) (y := (bif m_cmp .eq (F_isTwo s what) 0 then ((-2 : Int32), s) else (F_callOf s minute what))) (fun x : Int32 × SG => x.2) (by (try dsimp only); exact (Fr.rf _ _)) (by (try dsimp only); exact (Fr.bifp (b := m_cmp .eq (F_isTwo s what) 0) (x := ((-2 : Int32), s)) (y := (F_callOf s minute what)) (fun x : Int32 × SG => x.2) (by (try dsimp only); exact (Fr.rf _ _)) (by (try dsimp only); exact (Fr.tr (s1 := s) (Fr.rf _ _) (Fr.wk (W2 := W_call) (fr_callOf s minute what) (by rfl)))))))
set_option maxRecDepth 20000 in
set_option maxHeartbeats 200000 in
theorem ux_call (s : SG) (minute : Int32) (what : Int32)  : UP m_X7_call 0 (m_ent 3 [.ref 123, .int minute, .int what]) [] s (Qb (F_call s minute what)) := by
  refine UP.stp 1 (i1 := 1) (L1 := [some (.ref 123), some (.int minute), some (.int what)]) (st1 := [.int minute]) (s1 := s) rfl ?_
  refine UP.cI (M1 := m_X7_isMinute) (as := [.int minute]) (rest := []) (T := F_isMinute s minute) rfl rfl (ux_isMinute s minute) ?_
  refine mrg (m_cmp .eq (F_isMinute s minute) 0) ((-2 : Int32), s) (bif m_cmp .eq (F_isTwo s what) 0 then ((-2 : Int32), s) else (F_callOf s minute what)) (fun w5 : Int32 × SG => UP m_X7_call 12 [some (.ref 123), some (.int minute), some (.int what)] [.int w5.1] w5.2 (Qb (F_call s minute what))) (fun cc kk => ?_) (fun cc kk => ?_) (fun w5 e5 => ?_)
  · skip
    refine UP.ifT rfl cc ?_
    refine UP.stp 1 (i1 := 12) (L1 := [some (.ref 123), some (.int minute), some (.int what)]) (st1 := [.int (-2)]) (s1 := s) rfl ?_
    exact kk
  · skip
    refine UP.ifF rfl cc ?_
    refine UP.stp 1 (i1 := 4) (L1 := [some (.ref 123), some (.int minute), some (.int what)]) (st1 := [.int what]) (s1 := s) rfl ?_
    refine UP.cI (M1 := m_X7_isTwo) (as := [.int what]) (rest := []) (T := F_isTwo s what) rfl rfl (ux_isTwo s what) ?_
    refine mrg (m_cmp .eq (F_isTwo s what) 0) ((-2 : Int32), s) (F_callOf s minute what) (fun w4 : Int32 × SG => UP m_X7_call 12 [some (.ref 123), some (.int minute), some (.int what)] [.int w4.1] w4.2 (Qb (F_call s minute what))) (fun cc kk => ?_) (fun cc kk => ?_) (fun w4 e4 => ?_)
    · skip
      refine UP.ifT rfl cc ?_
      refine UP.stp 1 (i1 := 12) (L1 := [some (.ref 123), some (.int minute), some (.int what)]) (st1 := [.int (-2)]) (s1 := s) rfl ?_
      exact kk
    · skip
      refine UP.ifF rfl cc ?_
      refine UP.stp 3 (i1 := 9) (L1 := [some (.ref 123), some (.int minute), some (.int what)]) (st1 := [.int what, .int minute, .ref 123]) (s1 := s) rfl ?_
      refine UP.cB (M1 := m_X7_callOf) (as := [.ref 123, .int minute, .int what]) (rest := []) (T := F_callOf s minute what) rfl rfl (ux_callOf s minute what) (fun z3 e3 => ?_)
      refine UP.stp 1 (i1 := 12) (L1 := [some (.ref 123), some (.int minute), some (.int what)]) (st1 := [.int z3.1]) (s1 := z3.2) rfl ?_
      subst e3
      exact kk
    subst e4
    exact kk
  exact UP.ret (r := some (.int w5.1)) rfl ⟨by subst e5; first | (dsimp only [F_call]; done) | (dsimp only; done) | rfl, by subst e5; first | (dsimp only [F_call]; done) | (dsimp only; done) | rfl⟩
