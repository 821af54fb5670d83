def W_cseen : List (Nat × Nat × Option Nat) := [(7, 8, none), (6, 6, some 2)]
def F_cseen (s : SG) (minute : Int32) (place : Int32) : Int32 × SG := bif m_cmp .eq (F_isBelow s minute 24) 0 then (((-2), s)) else (bif m_cmp .ne (F_isBelow s place 21) 0 then (bif m_cmp .lt (s 6 2) 8 then (let z9 := F_sappend s minute place; (z9 6 2, z9)) else (((-4), s))) else (((-2), s)))
set_option maxRecDepth 20000 in
set_option maxHeartbeats 200000 in
theorem fr_cseen (s : SG) (minute : Int32) (place : Int32)  : Fr W_cseen s (F_cseen s minute place).2 := by dsimp only [F_cseen]; exact (Fr.bifp (b := m_cmp .eq (F_isBelow s minute 24) 0) (x := ((-2), s)) (y := bif m_cmp .ne (F_isBelow s place 21) 0 then (bif m_cmp .lt (s 6 2) 8 then (let z9 := F_sappend s minute place; (z9 6 2, z9)) else (((-4), s))) else (((-2), s))) (fun x : Int32 × SG => x.2) (by (try dsimp only); exact (Fr.rf _ _)) (by (try dsimp only); exact (Fr.bifp (b := m_cmp .ne (F_isBelow s place 21) 0) (x := bif m_cmp .lt (s 6 2) 8 then (let z9 := F_sappend s minute place; (z9 6 2, z9)) else (((-4), s))) (y := ((-2), s)) (fun x : Int32 × SG => x.2) (by (try dsimp only); exact (Fr.bifp (b := m_cmp .lt (s 6 2) 8) (x := let z9 := F_sappend s minute place; (z9 6 2, z9)) (y := ((-4), s)) (fun x : Int32 × SG => x.2) (by (try dsimp only); exact (Fr.tr (s1 := s) (Fr.rf _ _) (Fr.wk (W2 := W_cseen) (fr_sappend s minute place) (by rfl)))) (by (try dsimp only); exact (Fr.rf _ _)))) (by (try dsimp only); exact (Fr.rf _ _)))))
set_option maxRecDepth 20000 in
set_option maxHeartbeats 200000 in
theorem ux_cseen (s : SG) (minute : Int32) (place : Int32)  : UP m_X6_seen 0 (m_ent 3 [.ref 0, .int minute, .int place]) [] s (Qb (F_cseen s minute place)) := by
  refine UP.stp 2 (i1 := 2) (L1 := [some (.ref 0), some (.int minute), some (.int place)]) (st1 := [.int 24, .int minute]) (s1 := s) rfl ?_
  refine UP.cI (M1 := m_X6_isBelow) (as := [.int minute, .int 24]) (rest := []) (T := F_isBelow s minute 24) rfl rfl (ux_isBelow s minute 24) ?_
  refine UP.spl (m_cmp .eq (F_isBelow s minute 24) 0) (((-2), s)) (bif m_cmp .ne (F_isBelow s place 21) 0 then (bif m_cmp .lt (s 6 2) 8 then (let z9 := F_sappend s minute place; (z9 6 2, z9)) else (((-4), s))) else (((-2), s))) (by first | (dsimp only [F_cseen]; done) | (dsimp only; done) | rfl) (fun cc => ?_) (fun cc => ?_)
  · skip
    refine UP.ifT rfl cc ?_
    refine UP.stp 1 (i1 := 9) (L1 := [some (.ref 0), some (.int minute), some (.int place)]) (st1 := [.int (-2)]) (s1 := s) rfl ?_
    exact UP.ret (r := some (.int (-2))) rfl ⟨by first | (dsimp only [F_cseen]; done) | (dsimp only; done) | rfl, by first | (dsimp only [F_cseen]; done) | (dsimp only; done) | rfl⟩
  · skip
    refine UP.ifF rfl cc ?_
    refine UP.stp 2 (i1 := 6) (L1 := [some (.ref 0), some (.int minute), some (.int place)]) (st1 := [.int 21, .int place]) (s1 := s) rfl ?_
    refine UP.cI (M1 := m_X6_isBelow) (as := [.int place, .int 21]) (rest := []) (T := F_isBelow s place 21) rfl rfl (ux_isBelow s place 21) ?_
    refine UP.spl (m_cmp .ne (F_isBelow s place 21) 0) (bif m_cmp .lt (s 6 2) 8 then (let z9 := F_sappend s minute place; (z9 6 2, z9)) else (((-4), s))) (((-2), s)) (by first | (dsimp only [F_cseen]; done) | (dsimp only; done) | rfl) (fun cc => ?_) (fun cc => ?_)
    · skip
      refine UP.ifT rfl cc ?_
      refine UP.stp 4 (i1 := 14) (L1 := [some (.ref 0), some (.int minute), some (.int place)]) (st1 := [.int 8, .int (s 6 2)]) (s1 := s) rfl ?_
      refine UP.spl (m_cmp .lt (s 6 2) 8) (let z9 := F_sappend s minute place; (z9 6 2, z9)) (((-4), s)) (by first | (dsimp only [F_cseen]; done) | (dsimp only; done) | rfl) (fun cc => ?_) (fun cc => ?_)
      · skip
        refine UP.icT rfl cc ?_
        refine UP.stp 4 (i1 := 21) (L1 := [some (.ref 0), some (.int minute), some (.int place)]) (st1 := [.int place, .int minute, .ref 6]) (s1 := s) rfl ?_
        refine UP.cV (M1 := m_X2_append) (as := [.ref 6, .int minute, .int place]) (rest := []) (T := F_sappend s minute place) rfl rfl (ux_sappend s minute place) (fun z9 e9 => ?_)
        refine UP.stp 3 (i1 := 25) (L1 := [some (.ref 0), some (.int minute), some (.int place)]) (st1 := [.int (z9 6 2)]) (s1 := z9) rfl ?_
        exact UP.ret (r := some (.int (z9 6 2))) rfl ⟨by subst e9; first | (dsimp only [F_cseen]; done) | (dsimp only; done) | rfl, by subst e9; first | (dsimp only [F_cseen]; done) | (dsimp only; done) | rfl⟩
      · skip
        refine UP.icF rfl cc ?_
        refine UP.stp 1 (i1 := 16) (L1 := [some (.ref 0), some (.int minute), some (.int place)]) (st1 := [.int (-4)]) (s1 := s) rfl ?_
        exact UP.ret (r := some (.int (-4))) rfl ⟨by first | (dsimp only [F_cseen]; done) | (dsimp only; done) | rfl, by first | (dsimp only [F_cseen]; done) | (dsimp only; done) | rfl⟩
    · skip
      refine UP.ifF rfl cc ?_
      refine UP.stp 1 (i1 := 9) (L1 := [some (.ref 0), some (.int minute), some (.int place)]) (st1 := [.int (-2)]) (s1 := s) rfl ?_
      exact UP.ret (r := some (.int (-2))) rfl ⟨by first | (dsimp only [F_cseen]; done) | (dsimp only; done) | rfl, by first | (dsimp only [F_cseen]; done) | (dsimp only; done) | rfl⟩
def W_cforget : List (Nat × Nat × Option Nat) := [(6, 6, some 2)]
def F_cforget (s : SG)  : Int32 × SG := let v1 := s 6 2; (v1, (uset s 6 2 0))
set_option maxRecDepth 20000 in
set_option maxHeartbeats 200000 in
theorem fr_cforget (s : SG)   : Fr W_cforget s (F_cforget s).2 := by dsimp only [F_cforget]; exact (Fr.uset (s1 := s) (a := 6) (j := 2) (x := 0) (by rfl) (Fr.rf _ _))
set_option maxRecDepth 20000 in
set_option maxHeartbeats 200000 in
theorem ux_cforget (s : SG)   : UP m_X6_forget 0 (m_ent 2 [.ref 0]) [] s (Qb (F_cforget s)) := by
  refine UP.stp 3 (i1 := 3) (L1 := [some (.ref 0), none]) (st1 := [.int (s 6 2)]) (s1 := s) rfl ?_
  refine nm (G := fun v1 => UP m_X6_forget 3 [some (.ref 0), none] [.int v1] s (Qb (F_cforget s))) (s 6 2) (fun v1 e1 => ?_)
  refine UP.stp 6 (i1 := 9) (L1 := [some (.ref 0), some (.int v1)]) (st1 := [.int v1]) (s1 := (uset s 6 2 0)) rfl ?_
  exact UP.ret (r := some (.int v1)) rfl ⟨by subst e1; first | (dsimp only [F_cforget]; done) | (dsimp only; done) | rfl, by subst e1; first | (dsimp only [F_cforget]; done) | (dsimp only; done) | rfl⟩
def W_toldTrip : List (Nat × Nat × Option Nat) := [(16, 20, none), (22, 45, none), (46, 52, none), (15, 15, some 8), (59, 63, none), (65, 88, none), (89, 95, none), (58, 58, some 8), (53, 57, none), (96, 108, none), (0, 0, some 12), (0, 0, some 13)]
def F_toldTrip (s : SG)  : SG := let v2 := bif m_cmp .eq (s 0 12) 0 then s else (uset (F_row_a s 255) 0 12 0); v2
set_option maxRecDepth 20000 in
set_option maxHeartbeats 200000 in
theorem fr_toldTrip (s : SG)   : Fr W_toldTrip s (F_toldTrip s) := by dsimp only [F_toldTrip]; exact (Fr.bif (b := m_cmp .eq (s 0 12) 0) (s1 := s) (s2 := (uset (F_row_a s 255) 0 12 0)) (Fr.rf _ _) (Fr.uset (s1 := (F_row_a s 255)) (a := 0) (j := 12) (x := 0) (by rfl) (Fr.tr (s1 := s) (Fr.rf _ _) (Fr.wk (W2 := W_toldTrip) (fr_row_a s 255) (by rfl)))))
set_option maxRecDepth 20000 in
set_option maxHeartbeats 200000 in
theorem ux_toldTrip (s : SG)   : UP m_X6_toldTrip 0 (m_ent 1 [.ref 0]) [] s (Qr 15 (F_toldTrip s)) := by
  refine UP.stp 2 (i1 := 2) (L1 := [some (.ref 0)]) (st1 := [.int (s 0 12)]) (s1 := s) rfl ?_
  refine mrg (m_cmp .eq (s 0 12) 0) s (uset (F_row_a s 255) 0 12 0) (fun v2 : SG => UP m_X6_toldTrip 14 [some (.ref 0)] [] v2 (Qr 15 (F_toldTrip s))) (fun cc kk => ?_) (fun cc kk => ?_) (fun v2 e2 => ?_)
  · skip
    refine UP.ifT rfl cc ?_
    exact kk
  · skip
    refine UP.ifF rfl cc ?_
    refine UP.stp 7 (i1 := 10) (L1 := [some (.ref 0)]) (st1 := [.int 255, .ref 2, .ref 10, .ref 15]) (s1 := s) rfl ?_
    refine UP.cV (M1 := m_X5_row) (as := [.ref 15, .ref 10, .ref 2, .int 255]) (rest := []) (T := F_row_a s 255) rfl rfl (ux_row_a s 255) (fun z1 e1 => ?_)
    refine UP.stp 3 (i1 := 14) (L1 := [some (.ref 0)]) (st1 := []) (s1 := (uset z1 0 12 0)) rfl ?_
    subst e1
    exact kk
  refine UP.stp 2 (i1 := 16) (L1 := [some (.ref 0)]) (st1 := [.ref 15]) (s1 := v2) rfl ?_
  exact UP.ret (r := some (.ref 15)) rfl ⟨by subst e2; first | (dsimp only [F_toldTrip]; done) | (dsimp only; done) | rfl, by subst e2; first | (dsimp only [F_toldTrip]; done) | (dsimp only; done) | rfl⟩
def W_rowOther : List (Nat × Nat × Option Nat) := [(16, 20, none), (22, 45, none), (46, 52, none), (15, 15, some 8), (59, 63, none), (65, 88, none), (89, 95, none), (58, 58, some 8), (53, 57, none), (96, 108, none), (0, 0, some 12), (0, 0, some 13)]
def F_rowOther (s : SG)  : SG := let z1 := F_row_b s 255; z1
set_option maxRecDepth 20000 in
set_option maxHeartbeats 200000 in
theorem fr_rowOther (s : SG)   : Fr W_rowOther s (F_rowOther s) := by dsimp only [F_rowOther]; exact (Fr.tr (s1 := s) (Fr.rf _ _) (Fr.wk (W2 := W_rowOther) (fr_row_b s 255) (by rfl)))
set_option maxRecDepth 20000 in
set_option maxHeartbeats 200000 in
theorem ux_rowOther (s : SG)   : UP m_X6_rowOther 0 (m_ent 1 [.ref 0]) [] s (Qr 58 (F_rowOther s)) := by
  refine UP.stp 7 (i1 := 7) (L1 := [some (.ref 0)]) (st1 := [.int 255, .ref 2, .ref 53, .ref 58]) (s1 := s) rfl ?_
  refine UP.cV (M1 := m_X5_row) (as := [.ref 58, .ref 53, .ref 2, .int 255]) (rest := []) (T := F_row_b s 255) rfl rfl (ux_row_b s 255) (fun z1 e1 => ?_)
  refine UP.stp 2 (i1 := 10) (L1 := [some (.ref 0)]) (st1 := [.ref 58]) (s1 := z1) rfl ?_
  exact UP.ret (r := some (.ref 58)) rfl ⟨by subst e1; first | (dsimp only [F_rowOther]; done) | (dsimp only; done) | rfl, by subst e1; first | (dsimp only [F_rowOther]; done) | (dsimp only; done) | rfl⟩
