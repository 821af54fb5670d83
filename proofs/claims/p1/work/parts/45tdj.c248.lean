def W_hasRange_1 : List (Nat × Nat × Option Nat) := []
def F_hasRange_1 (s : SG) (f : Int32) (m : Int32) : Int32 := let v3 := bif m_cmp .lt f 0 then (0 : Int32) else (bif m_cmp .lt m 0 then (0 : Int32) else (bif m_cmp .gt f ((s 117 3) - m) then (0 : Int32) else (1 : Int32))); v3
set_option maxRecDepth 20000 in
set_option maxHeartbeats 200000 in
theorem ux_hasRange_1 (s : SG) (f : Int32) (m : Int32)  : UP m_X3_hasRange 0 (m_ent 3 [.ref 117, .int f, .int m]) [] s (Qi s (F_hasRange_1 s f m)) := by
  refine UP.stp 1 (i1 := 1) (L1 := [some (.ref 117), some (.int f), some (.int m)]) (st1 := [.int f]) (s1 := s) rfl ?_
  refine mrg (m_cmp .lt f 0) (0 : Int32) (bif m_cmp .lt m 0 then (0 : Int32) else (bif m_cmp .gt f ((s 117 3) - m) then (0 : Int32) else (1 : Int32))) (fun v3 : Int32 => UP m_X3_hasRange 13 [some (.ref 117), some (.int f), some (.int m)] [.int v3] s (Qi s (F_hasRange_1 s f m))) (fun cc kk => ?_) (fun cc kk => ?_) (fun v3 e3 => ?_)
  · skip
    refine UP.ifT rfl cc ?_
    refine UP.stp 1 (i1 := 13) (L1 := [some (.ref 117), some (.int f), some (.int m)]) (st1 := [.int 0]) (s1 := s) rfl ?_
    exact kk
  · skip
    refine UP.ifF rfl cc ?_
    refine UP.stp 1 (i1 := 3) (L1 := [some (.ref 117), some (.int f), some (.int m)]) (st1 := [.int m]) (s1 := s) rfl ?_
    refine mrg (m_cmp .lt m 0) (0 : Int32) (bif m_cmp .gt f ((s 117 3) - m) then (0 : Int32) else (1 : Int32)) (fun v2 : Int32 => UP m_X3_hasRange 13 [some (.ref 117), some (.int f), some (.int m)] [.int v2] s (Qi s (F_hasRange_1 s f m))) (fun cc kk => ?_) (fun cc kk => ?_) (fun v2 e2 => ?_)
    · skip
      refine UP.ifT rfl cc ?_
      refine UP.stp 1 (i1 := 13) (L1 := [some (.ref 117), some (.int f), some (.int m)]) (st1 := [.int 0]) (s1 := s) rfl ?_
      exact kk
    · skip
      refine UP.ifF rfl cc ?_
      refine UP.stp 5 (i1 := 9) (L1 := [some (.ref 117), some (.int f), some (.int m)]) (st1 := [.int ((s 117 3) - m), .int f]) (s1 := s) rfl ?_
      refine mrg (m_cmp .gt f ((s 117 3) - m)) (0 : Int32) (1 : Int32) (fun v1 : Int32 => UP m_X3_hasRange 13 [some (.ref 117), some (.int f), some (.int m)] [.int v1] s (Qi s (F_hasRange_1 s f m))) (fun cc kk => ?_) (fun cc kk => ?_) (fun v1 e1 => ?_)
      · skip
        refine UP.icT rfl cc ?_
        refine UP.stp 1 (i1 := 13) (L1 := [some (.ref 117), some (.int f), some (.int m)]) (st1 := [.int 0]) (s1 := s) rfl ?_
        exact kk
      · skip
        refine UP.icF rfl cc ?_
        refine UP.stp 2 (i1 := 13) (L1 := [some (.ref 117), some (.int f), some (.int m)]) (st1 := [.int 1]) (s1 := s) rfl ?_
        exact kk
      subst e1
      exact kk
    subst e2
    exact kk
  exact UP.ret (r := some (.int v3)) rfl ⟨by subst e3; first | (dsimp only [F_hasRange_1]; done) | (dsimp only; done) | rfl, by subst e3; first | (dsimp only [F_hasRange_1]; done) | (dsimp only; done) | rfl⟩
def W_begin_2 : List (Nat × Nat × Option Nat) := [(119, 119, none), (120, 120, none), (0, 0, some 4)]
def F_begin_2 (s : SG) (f : Int32) (n : Int32) : SG := let z1 := fil s 120 60 0; (uset (uset (uset z1 119 1 0) 119 2 f) 119 3 n)
set_option maxRecDepth 20000 in
set_option maxHeartbeats 200000 in
theorem fr_begin_2 (s : SG) (f : Int32) (n : Int32)  : Fr W_begin_2 s (F_begin_2 s f n) := by dsimp only [F_begin_2]; exact (let z1 : SG := fil s 120 60 0; (Fr.uset (s1 := (uset (uset z1 119 1 0) 119 2 f)) (a := 119) (j := 3) (x := n) (by rfl) (Fr.uset (s1 := (uset z1 119 1 0)) (a := 119) (j := 2) (x := f) (by rfl) (Fr.uset (s1 := z1) (a := 119) (j := 1) (x := 0) (by rfl) (Fr.fil (by rfl) (Fr.rf _ _))))))
set_option maxRecDepth 20000 in
set_option maxHeartbeats 200000 in
theorem ux_begin_2 (s : SG) (f : Int32) (n : Int32)  : UP m_X3_begin 0 (m_ent 3 [.ref 119, .int f, .int n]) [] s (Qv (F_begin_2 s f n)) := by
  refine UP.stp 3 (i1 := 3) (L1 := [some (.ref 119), some (.int f), some (.int n)]) (st1 := [.int 0, .ref 120]) (s1 := s) rfl ?_
  refine UP.cV (M1 := m_J7_fill_53178) (as := [.ref 120, .int 0]) (rest := []) (T := fil s 120 60 0) rfl rfl (ux_fill s 120 0 60 rfl (by decide)) (fun z1 e1 => ?_)
  refine UP.stp 9 (i1 := 13) (L1 := [some (.ref 119), some (.int f), some (.int n)]) (st1 := []) (s1 := (uset (uset (uset z1 119 1 0) 119 2 f) 119 3 n)) rfl ?_
  exact UP.ret (r := none) rfl ⟨by subst e1; first | (dsimp only [F_begin_2]; done) | (dsimp only; done) | rfl, by subst e1; first | (dsimp only [F_begin_2]; done) | (dsimp only; done) | rfl⟩
def W_findingOf_2 : List (Nat × Nat × Option Nat) := []
def F_findingOf_2 (s : SG) (f : Int32) (i : Int32) : Int32 := bif m_cmp .eq (s 119 1) 0 then (bif m_cmp .eq (s 119 2) f then (let v6 := bif m_cmp .eq (F_isBelow s i (s 119 3)) 0 then (2 : Int32) else (0 : Int32); v6) else (3)) else (1)
set_option maxRecDepth 20000 in
set_option maxHeartbeats 200000 in
theorem ux_findingOf_2 (s : SG) (f : Int32) (i : Int32)  : UP m_X3_findingOf 0 (m_ent 3 [.ref 119, .int f, .int i]) [] s (Qi s (F_findingOf_2 s f i)) := by
  refine UP.stp 2 (i1 := 2) (L1 := [some (.ref 119), some (.int f), some (.int i)]) (st1 := [.int (s 119 1)]) (s1 := s) rfl ?_
  refine UP.spl (m_cmp .eq (s 119 1) 0) (bif m_cmp .eq (s 119 2) f then (let v6 := bif m_cmp .eq (F_isBelow s i (s 119 3)) 0 then (2 : Int32) else (0 : Int32); v6) else (3)) (1) (by first | (dsimp only [F_findingOf_2]; done) | (dsimp only; done) | rfl) (fun cc => ?_) (fun cc => ?_)
  · skip
    refine UP.ifT rfl cc ?_
    refine UP.stp 3 (i1 := 8) (L1 := [some (.ref 119), some (.int f), some (.int i)]) (st1 := [.int f, .int (s 119 2)]) (s1 := s) rfl ?_
    refine UP.spl (m_cmp .eq (s 119 2) f) (let v6 := bif m_cmp .eq (F_isBelow s i (s 119 3)) 0 then (2 : Int32) else (0 : Int32); v6) (3) (by first | (dsimp only [F_findingOf_2]; done) | (dsimp only; done) | rfl) (fun cc => ?_) (fun cc => ?_)
    · skip
      refine UP.icT rfl cc ?_
      refine UP.stp 3 (i1 := 14) (L1 := [some (.ref 119), some (.int f), some (.int i)]) (st1 := [.int (s 119 3), .int i]) (s1 := s) rfl ?_
      refine UP.cI (M1 := m_X6_isBelow) (as := [.int i, .int (s 119 3)]) (rest := []) (T := F_isBelow s i (s 119 3)) rfl rfl (ux_isBelow s i (s 119 3)) ?_
      refine mrg (m_cmp .eq (F_isBelow s i (s 119 3)) 0) (2 : Int32) (0 : Int32) (fun v6 : Int32 => UP m_X3_findingOf 19 [some (.ref 119), some (.int f), some (.int i)] [.int v6] s (Qi s (let v6 := bif m_cmp .eq (F_isBelow s i (s 119 3)) 0 then (2 : Int32) else (0 : Int32); v6))) (fun cc kk => ?_) (fun cc kk => ?_) (fun v6 e6 => ?_)
      · skip
        refine UP.ifT rfl cc ?_
        refine UP.stp 1 (i1 := 19) (L1 := [some (.ref 119), some (.int f), some (.int i)]) (st1 := [.int 2]) (s1 := s) rfl ?_
        exact kk
      · skip
        refine UP.ifF rfl cc ?_
        refine UP.stp 2 (i1 := 19) (L1 := [some (.ref 119), some (.int f), some (.int i)]) (st1 := [.int 0]) (s1 := s) rfl ?_
        exact kk
      exact UP.ret (r := some (.int v6)) rfl ⟨by subst e6; first | (dsimp only [F_findingOf_2]; done) | (dsimp only; done) | rfl, by subst e6; first | (dsimp only [F_findingOf_2]; done) | (dsimp only; done) | rfl⟩
    · skip
      refine UP.icF rfl cc ?_
      refine UP.stp 1 (i1 := 10) (L1 := [some (.ref 119), some (.int f), some (.int i)]) (st1 := [.int 3]) (s1 := s) rfl ?_
      exact UP.ret (r := some (.int 3)) rfl ⟨by first | (dsimp only [F_findingOf_2]; done) | (dsimp only; done) | rfl, by first | (dsimp only [F_findingOf_2]; done) | (dsimp only; done) | rfl⟩
  · skip
    refine UP.ifF rfl cc ?_
    refine UP.stp 1 (i1 := 4) (L1 := [some (.ref 119), some (.int f), some (.int i)]) (st1 := [.int 1]) (s1 := s) rfl ?_
    exact UP.ret (r := some (.int 1)) rfl ⟨by first | (dsimp only [F_findingOf_2]; done) | (dsimp only; done) | rfl, by first | (dsimp only [F_findingOf_2]; done) | (dsimp only; done) | rfl⟩
def W_ckeep_2 : List (Nat × Nat × Option Nat) := [(119, 119, none), (120, 120, none), (0, 0, some 4)]
def F_ckeep_2 (s : SG) (i : Int32) (v : Int32) : SG := let v2 := bif m_cmp .ne (s 119 2) 0 then (bif m_cmp .ne (s 119 2) 1 then v else v.toInt16.toInt32) else v.toInt8.toInt32; (uset s 120 i.toNatClampNeg v2)
set_option maxRecDepth 20000 in
set_option maxHeartbeats 200000 in
theorem fr_ckeep_2 (s : SG) (i : Int32) (v : Int32)  : Fr W_ckeep_2 s (F_ckeep_2 s i v) := by dsimp only [F_ckeep_2]; exact (let v2 : Int32 := bif m_cmp .ne (s 119 2) 0 then (bif m_cmp .ne (s 119 2) 1 then v else v.toInt16.toInt32) else v.toInt8.toInt32; (Fr.uset (s1 := s) (a := 120) (j := i.toNatClampNeg) (x := v2) (by rfl) (Fr.rf _ _)))
set_option maxRecDepth 20000 in
set_option maxHeartbeats 200000 in
theorem ux_ckeep_2 (s : SG) (i : Int32) (v : Int32)  : UP m_X3_keep 0 (m_ent 3 [.ref 119, .int i, .int v]) [] s (Qv (F_ckeep_2 s i v)) := by
  refine UP.stp 5 (i1 := 5) (L1 := [some (.ref 119), some (.int i), some (.int v)]) (st1 := [.int (s 119 2), .int i, .ref 120]) (s1 := s) rfl ?_
  refine mrg (m_cmp .ne (s 119 2) 0) (bif m_cmp .ne (s 119 2) 1 then v else v.toInt16.toInt32) v.toInt8.toInt32 (fun v2 : Int32 => UP m_X3_keep 17 [some (.ref 119), some (.int i), some (.int v)] [.int v2, .int i, .ref 120] s (Qv (F_ckeep_2 s i v))) (fun cc kk => ?_) (fun cc kk => ?_) (fun v2 e2 => ?_)
  · skip
    refine UP.ifT rfl cc ?_
    refine UP.stp 3 (i1 := 12) (L1 := [some (.ref 119), some (.int i), some (.int v)]) (st1 := [.int 1, .int (s 119 2), .int i, .ref 120]) (s1 := s) rfl ?_
    refine mrg (m_cmp .ne (s 119 2) 1) v v.toInt16.toInt32 (fun v1 : Int32 => UP m_X3_keep 17 [some (.ref 119), some (.int i), some (.int v)] [.int v1, .int i, .ref 120] s (Qv (F_ckeep_2 s i v))) (fun cc kk => ?_) (fun cc kk => ?_) (fun v1 e1 => ?_)
    · skip
      refine UP.icT rfl cc ?_
      refine UP.stp 1 (i1 := 17) (L1 := [some (.ref 119), some (.int i), some (.int v)]) (st1 := [.int v, .int i, .ref 120]) (s1 := s) rfl ?_
      exact kk
    · skip
      refine UP.icF rfl cc ?_
      refine UP.stp 3 (i1 := 17) (L1 := [some (.ref 119), some (.int i), some (.int v)]) (st1 := [.int v.toInt16.toInt32, .int i, .ref 120]) (s1 := s) rfl ?_
      exact kk
    subst e1
    exact kk
  · skip
    refine UP.ifF rfl cc ?_
    refine UP.stp 3 (i1 := 17) (L1 := [some (.ref 119), some (.int i), some (.int v)]) (st1 := [.int v.toInt8.toInt32, .int i, .ref 120]) (s1 := s) rfl ?_
    exact kk
  refine UP.stp 1 (i1 := 18) (L1 := [some (.ref 119), some (.int i), some (.int v)]) (st1 := []) (s1 := (uset s 120 i.toNatClampNeg v2)) rfl ?_
  exact UP.ret (r := none) rfl ⟨by subst e2; first | (dsimp only [F_ckeep_2]; done) | (dsimp only; done) | rfl, by subst e2; first | (dsimp only [F_ckeep_2]; done) | (dsimp only; done) | rfl⟩
