def W_farthestStray_b : List (Nat × Nat × Option Nat) := []
def B_farthestStray_b_4 (s : SG) (i1 : Nat) (a1 : Int32) : Int32 := let v2 := (if a1 < (if 0 ≤ ((s 60 i1) - 10) then ((s 60 i1) - 10) else 0 - ((s 60 i1) - 10)) then (if 0 ≤ ((s 60 i1) - 10) then ((s 60 i1) - 10) else 0 - ((s 60 i1) - 10)) else a1); v2
def F_farthestStray_b (s : SG)  : Int32 := let z1 := itr (B_farthestStray_b_4 s) 0 24 (0 : Int32); z1
set_option maxRecDepth 20000 in
set_option maxHeartbeats 200000 in
theorem ux_farthestStray_b (s : SG)   : UP m_X5_farthestStray 0 (m_ent 3 [.ref 58]) [] s (Qi s (F_farthestStray_b s)) := by
  refine UP.stp 4 (i1 := 4) (L1 := [some (.ref 58), some (.int 0), some (.int 0)]) (st1 := []) (s1 := s) rfl ?_
  refine lp (fun (i1 : Nat) (a1 : Int32) => UP m_X5_farthestStray 4 [some (.ref 58), some (.int a1), some (.int (Int32.ofNat i1))] [] s (Qi s (F_farthestStray_b s))) (fun (_ : Nat) (a1 : Int32) => Fr W_farthestStray_b s s) (B_farthestStray_b_4 s) (24) (fun i1 a1 hi1 g1 => g1) (fun i1 a1 hi1 g1 kk => ?_) 24 (0) (0 : Int32) (by  omega) (Fr.rf _ _) (fun z1 e1 g1 => ?_)
  · skip
    refine UP.stp 2 (i1 := 6) (L1 := [some (.ref 58), some (.int a1), some (.int (Int32.ofNat i1))]) (st1 := [.int 24, .int (Int32.ofNat i1)]) (s1 := s) rfl ?_
    refine UP.icF rfl (ge_F (show i1 < (24 : Int32).toNatClampNeg from hi1)) ?_
    refine UP.stp 4 (i1 := 11) (L1 := [some (.ref 58), some (.int a1), some (.int (Int32.ofNat i1))]) (st1 := [.int (Int32.ofNat i1), .ref 60, .int a1]) (s1 := s) rfl ?_
    refine UP.ald (e := i1) rfl rfl (by omega) ?_
    show UP m_X5_farthestStray 12 [some (.ref 58), some (.int a1), some (.int (Int32.ofNat i1))] [.int (s 60 i1), .int a1] s (Qi s (F_farthestStray_b s))
    refine UP.stp 4 (i1 := 16) (L1 := [some (.ref 58), some (.int a1), some (.int (Int32.ofNat i1))]) (st1 := [.int (if a1 < (if 0 ≤ ((s 60 i1) - 10) then ((s 60 i1) - 10) else 0 - ((s 60 i1) - 10)) then (if 0 ≤ ((s 60 i1) - 10) then ((s 60 i1) - 10) else 0 - ((s 60 i1) - 10)) else a1)]) (s1 := s) rfl ?_
    refine nm (G := fun v2 => UP m_X5_farthestStray 16 [some (.ref 58), some (.int a1), some (.int (Int32.ofNat i1))] [.int v2] s (Qi s (F_farthestStray_b s))) (if a1 < (if 0 ≤ ((s 60 i1) - 10) then ((s 60 i1) - 10) else 0 - ((s 60 i1) - 10)) then (if 0 ≤ ((s 60 i1) - 10) then ((s 60 i1) - 10) else 0 - ((s 60 i1) - 10)) else a1) (fun v2 e2 => ?_)
    refine UP.stp 3 (i1 := 4) (L1 := [some (.ref 58), some (.int v2), some (.int ((Int32.ofNat i1) + 1))]) (st1 := []) (s1 := s) rfl ?_
    subst e2
    rw [ofn_s]
    try dsimp only [B_farthestStray_b_4] at kk
    exact kk
  refine UP.stp 2 (i1 := 6) (L1 := [some (.ref 58), some (.int z1), some (.int (Int32.ofNat 24))]) (st1 := [.int 24, .int (Int32.ofNat 24)]) (s1 := s) rfl ?_
  refine UP.icT rfl (ge_T (24 : Int32)) ?_
  refine UP.stp 1 (i1 := 20) (L1 := [some (.ref 58), some (.int z1), some (.int (Int32.ofNat 24))]) (st1 := [.int z1]) (s1 := s) rfl ?_
  exact UP.ret (r := some (.int z1)) rfl ⟨by subst e1; first | (dsimp only [F_farthestStray_b]; done) | (dsimp only; done) | rfl, by subst e1; first | (dsimp only [F_farthestStray_b]; done) | (dsimp only; done) | rfl⟩
