/-! the model: what changes what was told (printed by wip/u/mk_m3.py) -/
def W_meets : List (Nat × Nat × Option Nat) := [(123, 123, some 46)]
def F_meets (s : SG) (number : Int32) : Int32 × SG := ((-10) - number, (uset s 123 46 number))
set_option maxRecDepth 20000 in
set_option maxHeartbeats 200000 in
theorem fr_meets (s : SG) (number : Int32)  : Fr W_meets s (F_meets s number).2 := by dsimp only [F_meets]; exact (Fr.uset (s1 := s) (a := 123) (j := 46) (x := number) (by rfl) (Fr.rf _ _))
set_option maxRecDepth 20000 in
set_option maxHeartbeats 200000 in
theorem ux_meets (s : SG) (number : Int32)  : UP m_X7_meets 0 (m_ent 2 [.ref 123, .int number]) [] s (Qb (F_meets s number)) := by
  refine UP.stp 6 (i1 := 6) (L1 := [some (.ref 123), some (.int number)]) (st1 := [.int ((-10) - number)]) (s1 := (uset s 123 46 number)) rfl ?_
  exact UP.ret (r := some (.int ((-10) - number))) rfl ⟨by first | (dsimp only [F_meets]; done) | (dsimp only; done) | rfl, by first | (dsimp only [F_meets]; done) | (dsimp only; done) | rfl⟩
