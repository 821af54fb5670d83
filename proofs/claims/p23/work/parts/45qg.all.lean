section
def W_cseen : List (Nat × Nat × Option Nat) := [(7, 8, none), (6, 6, some 2)]
def F_cseen (s : SG) (minute : Int32) (place : Int32) : Int32 × SG := bif m_cmp .eq (F_isBelow s minute 24) 0 then (((-2), s)) else (bif m_cmp .ne (F_isBelow s place 21) 0 then (bif m_cmp .lt (s 6 2) 8 then (let z9 := F_sappend s minute place; (z9 6 2, z9)) else (((-4), s))) else (((-2), s)))
set_option maxRecDepth 20000 in
set_option maxHeartbeats 200000 in
theorem fr_cseen (s : SG) (minute : Int32) (place : Int32)  : Fr W_cseen s (F_cseen s minute place).2 := by dsimp only [F_cseen]; exact (Fr.bifp (b := m_cmp .eq (F_isBelow s minute 24) 0) (x := ((-2), s)) (y := bif m_cmp .ne (F_isBelow s place 21) 0 then (bif m_cmp .lt (s 6 2) 8 then (let z9 := F_sappend s minute place; (z9 6 2, z9)) else (((-4), s))) else (((-2), s))) (fun x : Int32 × SG => x.2) (by (try dsimp only); exact (Fr.rf _ _)) (by (try dsimp only); exact (Fr.bifp (b := m_cmp .ne (F_isBelow s place 21) 0) (x := bif m_cmp .lt (s 6 2) 8 then (let z9 := F_sappend s minute place; (z9 6 2, z9)) else (((-4), s))) (y := ((-2), s)) (fun x : Int32 × SG => x.2) (by (try dsimp only); exact (Fr.bifp (b := m_cmp .lt (s 6 2) 8) (x := let z9 := F_sappend s minute place; (z9 6 2, z9)) (y := ((-4), s)) (fun x : Int32 × SG => x.2) (by (try dsimp only); exact (Fr.tr (s1 := s) (Fr.rf _ _) (Fr.wk (W2 := W_cseen) (fr_sappend s minute place) (by rfl)))) (by (try dsimp only); exact (Fr.rf _ _)))) (by (try dsimp only); exact (Fr.rf _ _)))))
set_option maxRecDepth 20000 in
set_option maxHeartbeats 200000 in
theorem ux_cseen (s : SG) (minute : Int32) (place : Int32)  : UP m_X6_seen 0 (m_ent 3 [.ref 0, .int minute, .int place]) [] s (Qb (F_cseen s minute place)) := by
  refine UP.stp 2 (i1 := 2) (L1 := [some (.ref 0), some (.int minute), some (.int place)]) (st1 := [.int 24, .int minute]) (s1 := s) rfl ?_
  refine UP.cI (M1 := m_X6_isBelow) (as := [.int minute, .int 24]) (rest := []) (T := F_isBelow s minute 24) rfl rfl (ux_isBelow s minute 24) ?_
  refine UP.spl (m_cmp .eq (F_isBelow s minute 24) 0) (((-2), s)) (bif m_cmp .ne (F_isBelow s place 21) 0 then (bif m_cmp .lt (s 6 2) 8 then (let z9 := F_sappend s minute place; (z9 6 2, z9)) else (((-4), s))) else (((-2), s))) (by first | (dsimp only [F_cseen]; done) | (dsimp only; done) | rfl) (fun cc => ?_) (fun cc => ?_)
  · skip
    refine UP.ifT rfl cc ?_
    refine UP.stp 1 (i1 := 9) (L1 := [some (.ref 0), some (.int minute), some (.int place)]) (st1 := [.int (-2)]) (s1 := s) rfl ?_
    exact UP.ret (r := some (.int (-2))) rfl ⟨by first | (dsimp only [F_cseen]; done) | (dsimp only; done) | rfl, by first | (dsimp only [F_cseen]; done) | (dsimp only; done) | rfl⟩
  · skip
    refine UP.ifF rfl cc ?_
    refine UP.stp 2 (i1 := 6) (L1 := [some (.ref 0), some (.int minute), some (.int place)]) (st1 := [.int 21, .int place]) (s1 := s) rfl ?_
    refine UP.cI (M1 := m_X6_isBelow) (as := [.int place, .int 21]) (rest := []) (T := F_isBelow s place 21) rfl rfl (ux_isBelow s place 21) ?_
    refine UP.spl (m_cmp .ne (F_isBelow s place 21) 0) (bif m_cmp .lt (s 6 2) 8 then (let z9 := F_sappend s minute place; (z9 6 2, z9)) else (((-4), s))) (((-2), s)) (by first | (dsimp only [F_cseen]; done) | (dsimp only; done) | rfl) (fun cc => ?_) (fun cc => ?_)
    · skip
      refine UP.ifT rfl cc ?_
      refine UP.stp 4 (i1 := 14) (L1 := [some (.ref 0), some (.int minute), some (.int place)]) (st1 := [.int 8, .int (s 6 2)]) (s1 := s) rfl ?_
      refine UP.spl (m_cmp .lt (s 6 2) 8) (let z9 := F_sappend s minute place; (z9 6 2, z9)) (((-4), s)) (by first | (dsimp only [F_cseen]; done) | (dsimp only; done) | rfl) (fun cc => ?_) (fun cc => ?_)
      · skip
        refine UP.icT rfl cc ?_
        refine UP.stp 4 (i1 := 21) (L1 := [some (.ref 0), some (.int minute), some (.int place)]) (st1 := [.int place, .int minute, .ref 6]) (s1 := s) rfl ?_
        refine UP.cV (M1 := m_X2_append) (as := [.ref 6, .int minute, .int place]) (rest := []) (T := F_sappend s minute place) rfl rfl (ux_sappend s minute place) (fun z9 e9 => ?_)
        refine UP.stp 3 (i1 := 25) (L1 := [some (.ref 0), some (.int minute), some (.int place)]) (st1 := [.int (z9 6 2)]) (s1 := z9) rfl ?_
        exact UP.ret (r := some (.int (z9 6 2))) rfl ⟨by subst e9; first | (dsimp only [F_cseen]; done) | (dsimp only; done) | rfl, by subst e9; first | (dsimp only [F_cseen]; done) | (dsimp only; done) | rfl⟩
      · skip
        refine UP.icF rfl cc ?_
        refine UP.stp 1 (i1 := 16) (L1 := [some (.ref 0), some (.int minute), some (.int place)]) (st1 := [.int (-4)]) (s1 := s) rfl ?_
        exact UP.ret (r := some (.int (-4))) rfl ⟨by first | (dsimp only [F_cseen]; done) | (dsimp only; done) | rfl, by first | (dsimp only [F_cseen]; done) | (dsimp only; done) | rfl⟩
    · skip
      refine UP.ifF rfl cc ?_
      refine UP.stp 1 (i1 := 9) (L1 := [some (.ref 0), some (.int minute), some (.int place)]) (st1 := [.int (-2)]) (s1 := s) rfl ?_
      exact UP.ret (r := some (.int (-2))) rfl ⟨by first | (dsimp only [F_cseen]; done) | (dsimp only; done) | rfl, by first | (dsimp only [F_cseen]; done) | (dsimp only; done) | rfl⟩
def W_cforget : List (Nat × Nat × Option Nat) := [(6, 6, some 2)]
def F_cforget (s : SG)  : Int32 × SG := let v1 := s 6 2; (v1, (uset s 6 2 0))
set_option maxRecDepth 20000 in
set_option maxHeartbeats 200000 in
theorem fr_cforget (s : SG)   : Fr W_cforget s (F_cforget s).2 := by dsimp only [F_cforget]; exact (Fr.uset (s1 := s) (a := 6) (j := 2) (x := 0) (by rfl) (Fr.rf _ _))
set_option maxRecDepth 20000 in
set_option maxHeartbeats 200000 in
theorem ux_cforget (s : SG)   : UP m_X6_forget 0 (m_ent 2 [.ref 0]) [] s (Qb (F_cforget s)) := by
  refine UP.stp 3 (i1 := 3) (L1 := [some (.ref 0), none]) (st1 := [.int (s 6 2)]) (s1 := s) rfl ?_
  refine nm (G := fun v1 => UP m_X6_forget 3 [some (.ref 0), none] [.int v1] s (Qb (F_cforget s))) (s 6 2) (fun v1 e1 => ?_)
  refine UP.stp 6 (i1 := 9) (L1 := [some (.ref 0), some (.int v1)]) (st1 := [.int v1]) (s1 := (uset s 6 2 0)) rfl ?_
  exact UP.ret (r := some (.int v1)) rfl ⟨by subst e1; first | (dsimp only [F_cforget]; done) | (dsimp only; done) | rfl, by subst e1; first | (dsimp only [F_cforget]; done) | (dsimp only; done) | rfl⟩
def W_toldTrip : List (Nat × Nat × Option Nat) := [(16, 20, none), (22, 45, none), (46, 52, none), (15, 15, some 8), (59, 63, none), (65, 88, none), (89, 95, none), (58, 58, some 8), (53, 57, none), (96, 108, none), (0, 0, some 12), (0, 0, some 13)]
def F_toldTrip (s : SG)  : SG := let v2 := bif m_cmp .eq (s 0 12) 0 then s else (uset (F_row_a s 255) 0 12 0); v2
set_option maxRecDepth 20000 in
set_option maxHeartbeats 200000 in
theorem fr_toldTrip (s : SG)   : Fr W_toldTrip s (F_toldTrip s) := by dsimp only [F_toldTrip]; exact (Fr.bif (b := m_cmp .eq (s 0 12) 0) (s1 := s) (s2 := (uset (F_row_a s 255) 0 12 0)) (Fr.rf _ _) (Fr.uset (s1 := (F_row_a s 255)) (a := 0) (j := 12) (x := 0) (by rfl) (Fr.tr (s1 := s) (Fr.rf _ _) (Fr.wk (W2 := W_toldTrip) (fr_row_a s 255) (by rfl)))))
set_option maxRecDepth 20000 in
set_option maxHeartbeats 200000 in
theorem ux_toldTrip (s : SG)   : UP m_X6_toldTrip 0 (m_ent 1 [.ref 0]) [] s (Qr 15 (F_toldTrip s)) := by
  refine UP.stp 2 (i1 := 2) (L1 := [some (.ref 0)]) (st1 := [.int (s 0 12)]) (s1 := s) rfl ?_
  refine mrg (m_cmp .eq (s 0 12) 0) s (uset (F_row_a s 255) 0 12 0) (fun v2 : SG => UP m_X6_toldTrip 14 [some (.ref 0)] [] v2 (Qr 15 (F_toldTrip s))) (fun cc kk => ?_) (fun cc kk => ?_) (fun v2 e2 => ?_)
  · skip
    refine UP.ifT rfl cc ?_
    exact kk
  · skip
    refine UP.ifF rfl cc ?_
    refine UP.stp 7 (i1 := 10) (L1 := [some (.ref 0)]) (st1 := [.int 255, .ref 2, .ref 10, .ref 15]) (s1 := s) rfl ?_
    refine UP.cV (M1 := m_X5_row) (as := [.ref 15, .ref 10, .ref 2, .int 255]) (rest := []) (T := F_row_a s 255) rfl rfl (ux_row_a s 255) (fun z1 e1 => ?_)
    refine UP.stp 3 (i1 := 14) (L1 := [some (.ref 0)]) (st1 := []) (s1 := (uset z1 0 12 0)) rfl ?_
    subst e1
    exact kk
  refine UP.stp 2 (i1 := 16) (L1 := [some (.ref 0)]) (st1 := [.ref 15]) (s1 := v2) rfl ?_
  exact UP.ret (r := some (.ref 15)) rfl ⟨by subst e2; first | (dsimp only [F_toldTrip]; done) | (dsimp only; done) | rfl, by subst e2; first | (dsimp only [F_toldTrip]; done) | (dsimp only; done) | rfl⟩
def W_rowOther : List (Nat × Nat × Option Nat) := [(16, 20, none), (22, 45, none), (46, 52, none), (15, 15, some 8), (59, 63, none), (65, 88, none), (89, 95, none), (58, 58, some 8), (53, 57, none), (96, 108, none), (0, 0, some 12), (0, 0, some 13)]
def F_rowOther (s : SG)  : SG := let z1 := F_row_b s 255; z1
set_option maxRecDepth 20000 in
set_option maxHeartbeats 200000 in
theorem fr_rowOther (s : SG)   : Fr W_rowOther s (F_rowOther s) := by dsimp only [F_rowOther]; exact (Fr.tr (s1 := s) (Fr.rf _ _) (Fr.wk (W2 := W_rowOther) (fr_row_b s 255) (by rfl)))
set_option maxRecDepth 20000 in
set_option maxHeartbeats 200000 in
theorem ux_rowOther (s : SG)   : UP m_X6_rowOther 0 (m_ent 1 [.ref 0]) [] s (Qr 58 (F_rowOther s)) := by
  refine UP.stp 7 (i1 := 7) (L1 := [some (.ref 0)]) (st1 := [.int 255, .ref 2, .ref 53, .ref 58]) (s1 := s) rfl ?_
  refine UP.cV (M1 := m_X5_row) (as := [.ref 58, .ref 53, .ref 2, .int 255]) (rest := []) (T := F_row_b s 255) rfl rfl (ux_row_b s 255) (fun z1 e1 => ?_)
  refine UP.stp 2 (i1 := 10) (L1 := [some (.ref 0)]) (st1 := [.ref 58]) (s1 := z1) rfl ?_
  exact UP.ret (r := some (.ref 58)) rfl ⟨by subst e1; first | (dsimp only [F_rowOther]; done) | (dsimp only; done) | rfl, by subst e1; first | (dsimp only [F_rowOther]; done) | (dsimp only; done) | rfl⟩
end
section
def W_take : List (Nat × Nat × Option Nat) := [(53, 57, none)]
def F_take (s : SG)  : SG := let v1 := s 10 0; let v2 := (mvs (mvs (mvs (mvs (uset s 53 0 v1) 11 0 54 0 8) 12 0 55 0 8) 13 0 56 0 24) 14 0 57 0 24) 10 5; let v3 := (mvs (mvs (mvs (mvs (uset s 53 0 v1) 11 0 54 0 8) 12 0 55 0 8) 13 0 56 0 24) 14 0 57 0 24) 10 6; (uset (uset (mvs (mvs (mvs (mvs (uset s 53 0 v1) 11 0 54 0 8) 12 0 55 0 8) 13 0 56 0 24) 14 0 57 0 24) 53 5 v2) 53 6 v3)
set_option maxRecDepth 20000 in
set_option maxHeartbeats 200000 in
theorem fr_take (s : SG)   : Fr W_take s (F_take s) := by dsimp only [F_take]; exact (let v1 : Int32 := s 10 0; (let v2 : Int32 := (mvs (mvs (mvs (mvs (uset s 53 0 v1) 11 0 54 0 8) 12 0 55 0 8) 13 0 56 0 24) 14 0 57 0 24) 10 5; (let v3 : Int32 := (mvs (mvs (mvs (mvs (uset s 53 0 v1) 11 0 54 0 8) 12 0 55 0 8) 13 0 56 0 24) 14 0 57 0 24) 10 6; (Fr.uset (s1 := (uset (mvs (mvs (mvs (mvs (uset s 53 0 v1) 11 0 54 0 8) 12 0 55 0 8) 13 0 56 0 24) 14 0 57 0 24) 53 5 v2)) (a := 53) (j := 6) (x := v3) (by rfl) (Fr.uset (s1 := (mvs (mvs (mvs (mvs (uset s 53 0 v1) 11 0 54 0 8) 12 0 55 0 8) 13 0 56 0 24) 14 0 57 0 24)) (a := 53) (j := 5) (x := v2) (by rfl) (Fr.mvs (by rfl) (Fr.mvs (by rfl) (Fr.mvs (by rfl) (Fr.mvs (by rfl) (Fr.uset (s1 := s) (a := 53) (j := 0) (x := v1) (by rfl) (Fr.rf _ _)))))))))))
set_option maxRecDepth 20000 in
set_option maxHeartbeats 200000 in
theorem ux_take (s : SG)   : UP m_X0_take 0 (m_ent 2 [.ref 53, .ref 10]) [] s (Qv (F_take s)) := by
  refine UP.stp 3 (i1 := 3) (L1 := [some (.ref 53), some (.ref 10)]) (st1 := [.int (s 10 0), .ref 53]) (s1 := s) rfl ?_
  refine nm (G := fun v1 => UP m_X0_take 3 [some (.ref 53), some (.ref 10)] [.int v1, .ref 53] s (Qv (F_take s))) (s 10 0) (fun v1 e1 => ?_)
  refine UP.stp 36 (i1 := 39) (L1 := [some (.ref 53), some (.ref 10)]) (st1 := [.int ((mvs (mvs (mvs (mvs (uset s 53 0 v1) 11 0 54 0 8) 12 0 55 0 8) 13 0 56 0 24) 14 0 57 0 24) 10 5), .ref 53]) (s1 := (mvs (mvs (mvs (mvs (uset s 53 0 v1) 11 0 54 0 8) 12 0 55 0 8) 13 0 56 0 24) 14 0 57 0 24)) rfl ?_
  refine nm (G := fun v2 => UP m_X0_take 39 [some (.ref 53), some (.ref 10)] [.int v2, .ref 53] (mvs (mvs (mvs (mvs (uset s 53 0 v1) 11 0 54 0 8) 12 0 55 0 8) 13 0 56 0 24) 14 0 57 0 24) (Qv (F_take s))) ((mvs (mvs (mvs (mvs (uset s 53 0 v1) 11 0 54 0 8) 12 0 55 0 8) 13 0 56 0 24) 14 0 57 0 24) 10 5) (fun v2 e2 => ?_)
  refine UP.stp 4 (i1 := 43) (L1 := [some (.ref 53), some (.ref 10)]) (st1 := [.int ((mvs (mvs (mvs (mvs (uset s 53 0 v1) 11 0 54 0 8) 12 0 55 0 8) 13 0 56 0 24) 14 0 57 0 24) 10 6), .ref 53]) (s1 := (uset (mvs (mvs (mvs (mvs (uset s 53 0 v1) 11 0 54 0 8) 12 0 55 0 8) 13 0 56 0 24) 14 0 57 0 24) 53 5 v2)) rfl ?_
  refine nm (G := fun v3 => UP m_X0_take 43 [some (.ref 53), some (.ref 10)] [.int v3, .ref 53] (uset (mvs (mvs (mvs (mvs (uset s 53 0 v1) 11 0 54 0 8) 12 0 55 0 8) 13 0 56 0 24) 14 0 57 0 24) 53 5 v2) (Qv (F_take s))) ((mvs (mvs (mvs (mvs (uset s 53 0 v1) 11 0 54 0 8) 12 0 55 0 8) 13 0 56 0 24) 14 0 57 0 24) 10 6) (fun v3 e3 => ?_)
  refine UP.stp 1 (i1 := 44) (L1 := [some (.ref 53), some (.ref 10)]) (st1 := []) (s1 := (uset (uset (mvs (mvs (mvs (mvs (uset s 53 0 v1) 11 0 54 0 8) 12 0 55 0 8) 13 0 56 0 24) 14 0 57 0 24) 53 5 v2) 53 6 v3)) rfl ?_
  exact UP.ret (r := none) rfl ⟨by subst e3 e2 e1; first | (dsimp only [F_take]; done) | (dsimp only; done) | rfl, by subst e3 e2 e1; first | (dsimp only [F_take]; done) | (dsimp only; done) | rfl⟩
def W_minutesAground_a : List (Nat × Nat × Option Nat) := []
def B_minutesAground_a_4 (s : SG) (i1 : Nat) (a1 : Int32) : Int32 := let v2 := a1 + (s 20 i1); v2
def F_minutesAground_a (s : SG)  : Int32 := let z1 := itr (B_minutesAground_a_4 s) 0 24 (0 : Int32); z1
set_option maxRecDepth 20000 in
set_option maxHeartbeats 200000 in
theorem ux_minutesAground_a (s : SG)   : UP m_X5_minutesAground 0 (m_ent 3 [.ref 15]) [] s (Qi s (F_minutesAground_a s)) := by
  refine UP.stp 4 (i1 := 4) (L1 := [some (.ref 15), some (.int 0), some (.int 0)]) (st1 := []) (s1 := s) rfl ?_
  refine lp (fun (i1 : Nat) (a1 : Int32) => UP m_X5_minutesAground 4 [some (.ref 15), some (.int a1), some (.int (Int32.ofNat i1))] [] s (Qi s (F_minutesAground_a s))) (fun (_ : Nat) (a1 : Int32) => Fr W_minutesAground_a s s) (B_minutesAground_a_4 s) (24) (fun i1 a1 hi1 g1 => g1) (fun i1 a1 hi1 g1 kk => ?_) 24 (0) (0 : Int32) (by  omega) (Fr.rf _ _) (fun z1 e1 g1 => ?_)
  · skip
    refine UP.stp 2 (i1 := 6) (L1 := [some (.ref 15), some (.int a1), some (.int (Int32.ofNat i1))]) (st1 := [.int 24, .int (Int32.ofNat i1)]) (s1 := s) rfl ?_
    refine UP.icF rfl (ge_F (show i1 < (24 : Int32).toNatClampNeg from hi1)) ?_
    refine UP.stp 4 (i1 := 11) (L1 := [some (.ref 15), some (.int a1), some (.int (Int32.ofNat i1))]) (st1 := [.int (Int32.ofNat i1), .ref 20, .int a1]) (s1 := s) rfl ?_
    refine UP.ald (e := i1) rfl rfl (by omega) ?_
    show UP m_X5_minutesAground 12 [some (.ref 15), some (.int a1), some (.int (Int32.ofNat i1))] [.int (s 20 i1), .int a1] s (Qi s (F_minutesAground_a s))
    refine UP.stp 1 (i1 := 13) (L1 := [some (.ref 15), some (.int a1), some (.int (Int32.ofNat i1))]) (st1 := [.int (a1 + (s 20 i1))]) (s1 := s) rfl ?_
    refine nm (G := fun v2 => UP m_X5_minutesAground 13 [some (.ref 15), some (.int a1), some (.int (Int32.ofNat i1))] [.int v2] s (Qi s (F_minutesAground_a s))) (a1 + (s 20 i1)) (fun v2 e2 => ?_)
    refine UP.stp 3 (i1 := 4) (L1 := [some (.ref 15), some (.int v2), some (.int ((Int32.ofNat i1) + 1))]) (st1 := []) (s1 := s) rfl ?_
    subst e2
    rw [ofn_s]
    try dsimp only [B_minutesAground_a_4] at kk
    exact kk
  refine UP.stp 2 (i1 := 6) (L1 := [some (.ref 15), some (.int z1), some (.int (Int32.ofNat 24))]) (st1 := [.int 24, .int (Int32.ofNat 24)]) (s1 := s) rfl ?_
  refine UP.icT rfl (ge_T (24 : Int32)) ?_
  refine UP.stp 1 (i1 := 17) (L1 := [some (.ref 15), some (.int z1), some (.int (Int32.ofNat 24))]) (st1 := [.int z1]) (s1 := s) rfl ?_
  exact UP.ret (r := some (.int z1)) rfl ⟨by subst e1; first | (dsimp only [F_minutesAground_a]; done) | (dsimp only; done) | rfl, by subst e1; first | (dsimp only [F_minutesAground_a]; done) | (dsimp only; done) | rfl⟩
def W_firstAground_a : List (Nat × Nat × Option Nat) := []
def B_firstAground_a_2 (s : SG) (i1 : Nat) (a1 : Unit) : (Unit) ⊕ (Int32) := bif m_cmp .ne (s 20 i1) 1 then (.inl ()) else (.inr (Int32.ofNat i1))
def F_firstAground_a (s : SG)  : Int32 := Sum.elim (fun z1 : Unit => (-1)) (fun x : Nat × (Int32) => x.2) (itx (B_firstAground_a_2 s) 0 24 ())
set_option maxRecDepth 20000 in
set_option maxHeartbeats 200000 in
theorem ux_firstAground_a (s : SG)   : UP m_X5_firstAground 0 (m_ent 2 [.ref 15]) [] s (Qi s (F_firstAground_a s)) := by
  refine UP.stp 2 (i1 := 2) (L1 := [some (.ref 15), some (.int 0)]) (st1 := []) (s1 := s) rfl ?_
  refine lpx (fun (i1 : Nat) (a1 : Unit) => UP m_X5_firstAground 2 [some (.ref 15), some (.int (Int32.ofNat i1))] [] s (Qi s (F_firstAground_a s))) (fun (_ : Nat) (b1 : Int32) => (F_firstAground_a s) = b1) (fun (_ : Nat) (a1 : Unit) => Fr W_firstAground_a s s) (B_firstAground_a_2 s) (24) (fun i1 a1 x1 hi1 g1 e => g1) (fun i1 a1 hi1 g1 kk => ?_) 24 (0) () (by omega) (Fr.rf _ _) (fun z1 e1 g1 => ?_) (fun i1 a1 b1 e1 hi1 g1 f1 => by have q : (F_firstAground_a s) = Sum.elim (fun z1 : Unit => (-1)) (fun x : Nat × (Int32) => x.2) (itx (B_firstAground_a_2 s) 0 24 ()) := (by first | (dsimp only [F_firstAground_a]; done) | (dsimp only; done) | rfl); rw [q, e1]; first | (dsimp only [Sum.elim_inr]; done) | rfl)
  · skip
    refine UP.stp 2 (i1 := 4) (L1 := [some (.ref 15), some (.int (Int32.ofNat i1))]) (st1 := [.int 24, .int (Int32.ofNat i1)]) (s1 := s) rfl ?_
    refine UP.icF rfl (ge_F (show i1 < (24 : Int32).toNatClampNeg from hi1)) ?_
    refine UP.stp 3 (i1 := 8) (L1 := [some (.ref 15), some (.int (Int32.ofNat i1))]) (st1 := [.int (Int32.ofNat i1), .ref 20]) (s1 := s) rfl ?_
    refine UP.ald (e := i1) rfl rfl (by omega) ?_
    show UP m_X5_firstAground 9 [some (.ref 15), some (.int (Int32.ofNat i1))] [.int (s 20 i1)] s (Qi s (F_firstAground_a s))
    refine UP.stp 1 (i1 := 10) (L1 := [some (.ref 15), some (.int (Int32.ofNat i1))]) (st1 := [.int 1, .int (s 20 i1)]) (s1 := s) rfl ?_
    refine brk (K := (Kx (fun (i1 : Nat) (a1 : Unit) => UP m_X5_firstAground 2 [some (.ref 15), some (.int (Int32.ofNat i1))] [] s (Qi s (F_firstAground_a s))) (fun (_ : Nat) (b1 : Int32) => (F_firstAground_a s) = b1) i1)) (m_cmp .ne (s 20 i1) 1) (.inl ()) (.inr (Int32.ofNat i1)) (by (try dsimp only [B_firstAground_a_2] at kk ⊢); exact kk) (fun cc kk => ?_) (fun cc kk => ?_)
    · skip
      refine UP.icT rfl cc ?_
      refine UP.stp 2 (i1 := 2) (L1 := [some (.ref 15), some (.int ((Int32.ofNat i1) + 1))]) (st1 := []) (s1 := s) rfl ?_
      rw [ofn_s]
      exact kk
    · skip
      refine UP.icF rfl cc ?_
      refine UP.stp 1 (i1 := 12) (L1 := [some (.ref 15), some (.int (Int32.ofNat i1))]) (st1 := [.int (Int32.ofNat i1)]) (s1 := s) rfl ?_
      have kk : (F_firstAground_a s) = Int32.ofNat i1 := by exact kk
      exact UP.ret (r := some (.int (Int32.ofNat i1))) rfl ⟨by rw [kk], rfl⟩
  · skip
    refine UP.eqT ((-1)) (by have q : (F_firstAground_a s) = Sum.elim (fun z1 : Unit => (-1)) (fun x : Nat × (Int32) => x.2) (itx (B_firstAground_a_2 s) 0 24 ()) := (by first | (dsimp only [F_firstAground_a]; done) | (dsimp only; done) | rfl); rw [q, e1]; first | (dsimp only [Sum.elim_inl]; done) | rfl) ?_
    refine UP.stp 2 (i1 := 4) (L1 := [some (.ref 15), some (.int (Int32.ofNat 24))]) (st1 := [.int 24, .int (Int32.ofNat 24)]) (s1 := s) rfl ?_
    refine UP.icT rfl (ge_T (24 : Int32)) ?_
    refine UP.stp 1 (i1 := 16) (L1 := [some (.ref 15), some (.int (Int32.ofNat 24))]) (st1 := [.int (-1)]) (s1 := s) rfl ?_
    exact UP.ret (r := some (.int (-1))) rfl ⟨by first | (dsimp only [F_firstAground_a]; done) | (dsimp only; done) | rfl, by first | (dsimp only [F_firstAground_a]; done) | (dsimp only; done) | rfl⟩
def W_lastStray_a : List (Nat × Nat × Option Nat) := []
def F_lastStray_a (s : SG)  : Int32 := (if 0 ≤ ((s 17 23) - 10) then ((s 17 23) - 10) else 0 - ((s 17 23) - 10))
set_option maxRecDepth 20000 in
set_option maxHeartbeats 200000 in
theorem ux_lastStray_a (s : SG)   : UP m_X5_lastStray 0 (m_ent 1 [.ref 15]) [] s (Qi s (F_lastStray_a s)) := by
  refine UP.stp 7 (i1 := 7) (L1 := [some (.ref 15)]) (st1 := [.int (if 0 ≤ ((s 17 23) - 10) then ((s 17 23) - 10) else 0 - ((s 17 23) - 10))]) (s1 := s) rfl ?_
  exact UP.ret (r := some (.int (if 0 ≤ ((s 17 23) - 10) then ((s 17 23) - 10) else 0 - ((s 17 23) - 10)))) rfl ⟨by first | (dsimp only [F_lastStray_a]; done) | (dsimp only; done) | rfl, by first | (dsimp only [F_lastStray_a]; done) | (dsimp only; done) | rfl⟩
end
section
def W_farthestStray_a : List (Nat × Nat × Option Nat) := []
def B_farthestStray_a_4 (s : SG) (i1 : Nat) (a1 : Int32) : Int32 := let v2 := (if a1 < (if 0 ≤ ((s 17 i1) - 10) then ((s 17 i1) - 10) else 0 - ((s 17 i1) - 10)) then (if 0 ≤ ((s 17 i1) - 10) then ((s 17 i1) - 10) else 0 - ((s 17 i1) - 10)) else a1); v2
def F_farthestStray_a (s : SG)  : Int32 := let z1 := itr (B_farthestStray_a_4 s) 0 24 (0 : Int32); z1
set_option maxRecDepth 20000 in
set_option maxHeartbeats 200000 in
theorem ux_farthestStray_a (s : SG)   : UP m_X5_farthestStray 0 (m_ent 3 [.ref 15]) [] s (Qi s (F_farthestStray_a s)) := by
  refine UP.stp 4 (i1 := 4) (L1 := [some (.ref 15), some (.int 0), some (.int 0)]) (st1 := []) (s1 := s) rfl ?_
  refine lp (fun (i1 : Nat) (a1 : Int32) => UP m_X5_farthestStray 4 [some (.ref 15), some (.int a1), some (.int (Int32.ofNat i1))] [] s (Qi s (F_farthestStray_a s))) (fun (_ : Nat) (a1 : Int32) => Fr W_farthestStray_a s s) (B_farthestStray_a_4 s) (24) (fun i1 a1 hi1 g1 => g1) (fun i1 a1 hi1 g1 kk => ?_) 24 (0) (0 : Int32) (by  omega) (Fr.rf _ _) (fun z1 e1 g1 => ?_)
  · skip
    refine UP.stp 2 (i1 := 6) (L1 := [some (.ref 15), some (.int a1), some (.int (Int32.ofNat i1))]) (st1 := [.int 24, .int (Int32.ofNat i1)]) (s1 := s) rfl ?_
    refine UP.icF rfl (ge_F (show i1 < (24 : Int32).toNatClampNeg from hi1)) ?_
    refine UP.stp 4 (i1 := 11) (L1 := [some (.ref 15), some (.int a1), some (.int (Int32.ofNat i1))]) (st1 := [.int (Int32.ofNat i1), .ref 17, .int a1]) (s1 := s) rfl ?_
    refine UP.ald (e := i1) rfl rfl (by omega) ?_
    show UP m_X5_farthestStray 12 [some (.ref 15), some (.int a1), some (.int (Int32.ofNat i1))] [.int (s 17 i1), .int a1] s (Qi s (F_farthestStray_a s))
    refine UP.stp 4 (i1 := 16) (L1 := [some (.ref 15), some (.int a1), some (.int (Int32.ofNat i1))]) (st1 := [.int (if a1 < (if 0 ≤ ((s 17 i1) - 10) then ((s 17 i1) - 10) else 0 - ((s 17 i1) - 10)) then (if 0 ≤ ((s 17 i1) - 10) then ((s 17 i1) - 10) else 0 - ((s 17 i1) - 10)) else a1)]) (s1 := s) rfl ?_
    refine nm (G := fun v2 => UP m_X5_farthestStray 16 [some (.ref 15), some (.int a1), some (.int (Int32.ofNat i1))] [.int v2] s (Qi s (F_farthestStray_a s))) (if a1 < (if 0 ≤ ((s 17 i1) - 10) then ((s 17 i1) - 10) else 0 - ((s 17 i1) - 10)) then (if 0 ≤ ((s 17 i1) - 10) then ((s 17 i1) - 10) else 0 - ((s 17 i1) - 10)) else a1) (fun v2 e2 => ?_)
    refine UP.stp 3 (i1 := 4) (L1 := [some (.ref 15), some (.int v2), some (.int ((Int32.ofNat i1) + 1))]) (st1 := []) (s1 := s) rfl ?_
    subst e2
    rw [ofn_s]
    try dsimp only [B_farthestStray_a_4] at kk
    exact kk
  refine UP.stp 2 (i1 := 6) (L1 := [some (.ref 15), some (.int z1), some (.int (Int32.ofNat 24))]) (st1 := [.int 24, .int (Int32.ofNat 24)]) (s1 := s) rfl ?_
  refine UP.icT rfl (ge_T (24 : Int32)) ?_
  refine UP.stp 1 (i1 := 20) (L1 := [some (.ref 15), some (.int z1), some (.int (Int32.ofNat 24))]) (st1 := [.int z1]) (s1 := s) rfl ?_
  exact UP.ret (r := some (.int z1)) rfl ⟨by subst e1; first | (dsimp only [F_farthestStray_a]; done) | (dsimp only; done) | rfl, by subst e1; first | (dsimp only [F_farthestStray_a]; done) | (dsimp only; done) | rfl⟩
def W_minutesAground_b : List (Nat × Nat × Option Nat) := []
def B_minutesAground_b_4 (s : SG) (i1 : Nat) (a1 : Int32) : Int32 := let v2 := a1 + (s 63 i1); v2
def F_minutesAground_b (s : SG)  : Int32 := let z1 := itr (B_minutesAground_b_4 s) 0 24 (0 : Int32); z1
set_option maxRecDepth 20000 in
set_option maxHeartbeats 200000 in
theorem ux_minutesAground_b (s : SG)   : UP m_X5_minutesAground 0 (m_ent 3 [.ref 58]) [] s (Qi s (F_minutesAground_b s)) := by
  refine UP.stp 4 (i1 := 4) (L1 := [some (.ref 58), some (.int 0), some (.int 0)]) (st1 := []) (s1 := s) rfl ?_
  refine lp (fun (i1 : Nat) (a1 : Int32) => UP m_X5_minutesAground 4 [some (.ref 58), some (.int a1), some (.int (Int32.ofNat i1))] [] s (Qi s (F_minutesAground_b s))) (fun (_ : Nat) (a1 : Int32) => Fr W_minutesAground_b s s) (B_minutesAground_b_4 s) (24) (fun i1 a1 hi1 g1 => g1) (fun i1 a1 hi1 g1 kk => ?_) 24 (0) (0 : Int32) (by  omega) (Fr.rf _ _) (fun z1 e1 g1 => ?_)
  · skip
    refine UP.stp 2 (i1 := 6) (L1 := [some (.ref 58), some (.int a1), some (.int (Int32.ofNat i1))]) (st1 := [.int 24, .int (Int32.ofNat i1)]) (s1 := s) rfl ?_
    refine UP.icF rfl (ge_F (show i1 < (24 : Int32).toNatClampNeg from hi1)) ?_
    refine UP.stp 4 (i1 := 11) (L1 := [some (.ref 58), some (.int a1), some (.int (Int32.ofNat i1))]) (st1 := [.int (Int32.ofNat i1), .ref 63, .int a1]) (s1 := s) rfl ?_
    refine UP.ald (e := i1) rfl rfl (by omega) ?_
    show UP m_X5_minutesAground 12 [some (.ref 58), some (.int a1), some (.int (Int32.ofNat i1))] [.int (s 63 i1), .int a1] s (Qi s (F_minutesAground_b s))
    refine UP.stp 1 (i1 := 13) (L1 := [some (.ref 58), some (.int a1), some (.int (Int32.ofNat i1))]) (st1 := [.int (a1 + (s 63 i1))]) (s1 := s) rfl ?_
    refine nm (G := fun v2 => UP m_X5_minutesAground 13 [some (.ref 58), some (.int a1), some (.int (Int32.ofNat i1))] [.int v2] s (Qi s (F_minutesAground_b s))) (a1 + (s 63 i1)) (fun v2 e2 => ?_)
    refine UP.stp 3 (i1 := 4) (L1 := [some (.ref 58), some (.int v2), some (.int ((Int32.ofNat i1) + 1))]) (st1 := []) (s1 := s) rfl ?_
    subst e2
    rw [ofn_s]
    try dsimp only [B_minutesAground_b_4] at kk
    exact kk
  refine UP.stp 2 (i1 := 6) (L1 := [some (.ref 58), some (.int z1), some (.int (Int32.ofNat 24))]) (st1 := [.int 24, .int (Int32.ofNat 24)]) (s1 := s) rfl ?_
  refine UP.icT rfl (ge_T (24 : Int32)) ?_
  refine UP.stp 1 (i1 := 17) (L1 := [some (.ref 58), some (.int z1), some (.int (Int32.ofNat 24))]) (st1 := [.int z1]) (s1 := s) rfl ?_
  exact UP.ret (r := some (.int z1)) rfl ⟨by subst e1; first | (dsimp only [F_minutesAground_b]; done) | (dsimp only; done) | rfl, by subst e1; first | (dsimp only [F_minutesAground_b]; done) | (dsimp only; done) | rfl⟩
def W_firstAground_b : List (Nat × Nat × Option Nat) := []
def B_firstAground_b_2 (s : SG) (i1 : Nat) (a1 : Unit) : (Unit) ⊕ (Int32) := bif m_cmp .ne (s 63 i1) 1 then (.inl ()) else (.inr (Int32.ofNat i1))
def F_firstAground_b (s : SG)  : Int32 := Sum.elim (fun z1 : Unit => (-1)) (fun x : Nat × (Int32) => x.2) (itx (B_firstAground_b_2 s) 0 24 ())
set_option maxRecDepth 20000 in
set_option maxHeartbeats 200000 in
theorem ux_firstAground_b (s : SG)   : UP m_X5_firstAground 0 (m_ent 2 [.ref 58]) [] s (Qi s (F_firstAground_b s)) := by
  refine UP.stp 2 (i1 := 2) (L1 := [some (.ref 58), some (.int 0)]) (st1 := []) (s1 := s) rfl ?_
  refine lpx (fun (i1 : Nat) (a1 : Unit) => UP m_X5_firstAground 2 [some (.ref 58), some (.int (Int32.ofNat i1))] [] s (Qi s (F_firstAground_b s))) (fun (_ : Nat) (b1 : Int32) => (F_firstAground_b s) = b1) (fun (_ : Nat) (a1 : Unit) => Fr W_firstAground_b s s) (B_firstAground_b_2 s) (24) (fun i1 a1 x1 hi1 g1 e => g1) (fun i1 a1 hi1 g1 kk => ?_) 24 (0) () (by omega) (Fr.rf _ _) (fun z1 e1 g1 => ?_) (fun i1 a1 b1 e1 hi1 g1 f1 => by have q : (F_firstAground_b s) = Sum.elim (fun z1 : Unit => (-1)) (fun x : Nat × (Int32) => x.2) (itx (B_firstAground_b_2 s) 0 24 ()) := (by first | (dsimp only [F_firstAground_b]; done) | (dsimp only; done) | rfl); rw [q, e1]; first | (dsimp only [Sum.elim_inr]; done) | rfl)
  · skip
    refine UP.stp 2 (i1 := 4) (L1 := [some (.ref 58), some (.int (Int32.ofNat i1))]) (st1 := [.int 24, .int (Int32.ofNat i1)]) (s1 := s) rfl ?_
    refine UP.icF rfl (ge_F (show i1 < (24 : Int32).toNatClampNeg from hi1)) ?_
    refine UP.stp 3 (i1 := 8) (L1 := [some (.ref 58), some (.int (Int32.ofNat i1))]) (st1 := [.int (Int32.ofNat i1), .ref 63]) (s1 := s) rfl ?_
    refine UP.ald (e := i1) rfl rfl (by omega) ?_
    show UP m_X5_firstAground 9 [some (.ref 58), some (.int (Int32.ofNat i1))] [.int (s 63 i1)] s (Qi s (F_firstAground_b s))
    refine UP.stp 1 (i1 := 10) (L1 := [some (.ref 58), some (.int (Int32.ofNat i1))]) (st1 := [.int 1, .int (s 63 i1)]) (s1 := s) rfl ?_
    refine brk (K := (Kx (fun (i1 : Nat) (a1 : Unit) => UP m_X5_firstAground 2 [some (.ref 58), some (.int (Int32.ofNat i1))] [] s (Qi s (F_firstAground_b s))) (fun (_ : Nat) (b1 : Int32) => (F_firstAground_b s) = b1) i1)) (m_cmp .ne (s 63 i1) 1) (.inl ()) (.inr (Int32.ofNat i1)) (by (try dsimp only [B_firstAground_b_2] at kk ⊢); exact kk) (fun cc kk => ?_) (fun cc kk => ?_)
    · skip
      refine UP.icT rfl cc ?_
      refine UP.stp 2 (i1 := 2) (L1 := [some (.ref 58), some (.int ((Int32.ofNat i1) + 1))]) (st1 := []) (s1 := s) rfl ?_
      rw [ofn_s]
      exact kk
    · skip
      refine UP.icF rfl cc ?_
      refine UP.stp 1 (i1 := 12) (L1 := [some (.ref 58), some (.int (Int32.ofNat i1))]) (st1 := [.int (Int32.ofNat i1)]) (s1 := s) rfl ?_
      have kk : (F_firstAground_b s) = Int32.ofNat i1 := by exact kk
      exact UP.ret (r := some (.int (Int32.ofNat i1))) rfl ⟨by rw [kk], rfl⟩
  · skip
    refine UP.eqT ((-1)) (by have q : (F_firstAground_b s) = Sum.elim (fun z1 : Unit => (-1)) (fun x : Nat × (Int32) => x.2) (itx (B_firstAground_b_2 s) 0 24 ()) := (by first | (dsimp only [F_firstAground_b]; done) | (dsimp only; done) | rfl); rw [q, e1]; first | (dsimp only [Sum.elim_inl]; done) | rfl) ?_
    refine UP.stp 2 (i1 := 4) (L1 := [some (.ref 58), some (.int (Int32.ofNat 24))]) (st1 := [.int 24, .int (Int32.ofNat 24)]) (s1 := s) rfl ?_
    refine UP.icT rfl (ge_T (24 : Int32)) ?_
    refine UP.stp 1 (i1 := 16) (L1 := [some (.ref 58), some (.int (Int32.ofNat 24))]) (st1 := [.int (-1)]) (s1 := s) rfl ?_
    exact UP.ret (r := some (.int (-1))) rfl ⟨by first | (dsimp only [F_firstAground_b]; done) | (dsimp only; done) | rfl, by first | (dsimp only [F_firstAground_b]; done) | (dsimp only; done) | rfl⟩
def W_lastStray_b : List (Nat × Nat × Option Nat) := []
def F_lastStray_b (s : SG)  : Int32 := (if 0 ≤ ((s 60 23) - 10) then ((s 60 23) - 10) else 0 - ((s 60 23) - 10))
set_option maxRecDepth 20000 in
set_option maxHeartbeats 200000 in
theorem ux_lastStray_b (s : SG)   : UP m_X5_lastStray 0 (m_ent 1 [.ref 58]) [] s (Qi s (F_lastStray_b s)) := by
  refine UP.stp 7 (i1 := 7) (L1 := [some (.ref 58)]) (st1 := [.int (if 0 ≤ ((s 60 23) - 10) then ((s 60 23) - 10) else 0 - ((s 60 23) - 10))]) (s1 := s) rfl ?_
  exact UP.ret (r := some (.int (if 0 ≤ ((s 60 23) - 10) then ((s 60 23) - 10) else 0 - ((s 60 23) - 10)))) rfl ⟨by first | (dsimp only [F_lastStray_b]; done) | (dsimp only; done) | rfl, by first | (dsimp only [F_lastStray_b]; done) | (dsimp only; done) | rfl⟩
end
section
def W_farthestStray_b : List (Nat × Nat × Option Nat) := []
def B_farthestStray_b_4 (s : SG) (i1 : Nat) (a1 : Int32) : Int32 := let v2 := (if a1 < (if 0 ≤ ((s 60 i1) - 10) then ((s 60 i1) - 10) else 0 - ((s 60 i1) - 10)) then (if 0 ≤ ((s 60 i1) - 10) then ((s 60 i1) - 10) else 0 - ((s 60 i1) - 10)) else a1); v2
def F_farthestStray_b (s : SG)  : Int32 := let z1 := itr (B_farthestStray_b_4 s) 0 24 (0 : Int32); z1
set_option maxRecDepth 20000 in
set_option maxHeartbeats 200000 in
theorem ux_farthestStray_b (s : SG)   : UP m_X5_farthestStray 0 (m_ent 3 [.ref 58]) [] s (Qi s (F_farthestStray_b s)) := by
  refine UP.stp 4 (i1 := 4) (L1 := [some (.ref 58), some (.int 0), some (.int 0)]) (st1 := []) (s1 := s) rfl ?_
  refine lp (fun (i1 : Nat) (a1 : Int32) => UP m_X5_farthestStray 4 [some (.ref 58), some (.int a1), some (.int (Int32.ofNat i1))] [] s (Qi s (F_farthestStray_b s))) (fun (_ : Nat) (a1 : Int32) => Fr W_farthestStray_b s s) (B_farthestStray_b_4 s) (24) (fun i1 a1 hi1 g1 => g1) (fun i1 a1 hi1 g1 kk => ?_) 24 (0) (0 : Int32) (by  omega) (Fr.rf _ _) (fun z1 e1 g1 => ?_)
  · skip
    refine UP.stp 2 (i1 := 6) (L1 := [some (.ref 58), some (.int a1), some (.int (Int32.ofNat i1))]) (st1 := [.int 24, .int (Int32.ofNat i1)]) (s1 := s) rfl ?_
    refine UP.icF rfl (ge_F (show i1 < (24 : Int32).toNatClampNeg from hi1)) ?_
    refine UP.stp 4 (i1 := 11) (L1 := [some (.ref 58), some (.int a1), some (.int (Int32.ofNat i1))]) (st1 := [.int (Int32.ofNat i1), .ref 60, .int a1]) (s1 := s) rfl ?_
    refine UP.ald (e := i1) rfl rfl (by omega) ?_
    show UP m_X5_farthestStray 12 [some (.ref 58), some (.int a1), some (.int (Int32.ofNat i1))] [.int (s 60 i1), .int a1] s (Qi s (F_farthestStray_b s))
    refine UP.stp 4 (i1 := 16) (L1 := [some (.ref 58), some (.int a1), some (.int (Int32.ofNat i1))]) (st1 := [.int (if a1 < (if 0 ≤ ((s 60 i1) - 10) then ((s 60 i1) - 10) else 0 - ((s 60 i1) - 10)) then (if 0 ≤ ((s 60 i1) - 10) then ((s 60 i1) - 10) else 0 - ((s 60 i1) - 10)) else a1)]) (s1 := s) rfl ?_
    refine nm (G := fun v2 => UP m_X5_farthestStray 16 [some (.ref 58), some (.int a1), some (.int (Int32.ofNat i1))] [.int v2] s (Qi s (F_farthestStray_b s))) (if a1 < (if 0 ≤ ((s 60 i1) - 10) then ((s 60 i1) - 10) else 0 - ((s 60 i1) - 10)) then (if 0 ≤ ((s 60 i1) - 10) then ((s 60 i1) - 10) else 0 - ((s 60 i1) - 10)) else a1) (fun v2 e2 => ?_)
    refine UP.stp 3 (i1 := 4) (L1 := [some (.ref 58), some (.int v2), some (.int ((Int32.ofNat i1) + 1))]) (st1 := []) (s1 := s) rfl ?_
    subst e2
    rw [ofn_s]
    try dsimp only [B_farthestStray_b_4] at kk
    exact kk
  refine UP.stp 2 (i1 := 6) (L1 := [some (.ref 58), some (.int z1), some (.int (Int32.ofNat 24))]) (st1 := [.int 24, .int (Int32.ofNat 24)]) (s1 := s) rfl ?_
  refine UP.icT rfl (ge_T (24 : Int32)) ?_
  refine UP.stp 1 (i1 := 20) (L1 := [some (.ref 58), some (.int z1), some (.int (Int32.ofNat 24))]) (st1 := [.int z1]) (s1 := s) rfl ?_
  exact UP.ret (r := some (.int z1)) rfl ⟨by subst e1; first | (dsimp only [F_farthestStray_b]; done) | (dsimp only; done) | rfl, by subst e1; first | (dsimp only [F_farthestStray_b]; done) | (dsimp only; done) | rfl⟩
end
section
def W_cat : List (Nat × Nat × Option Nat) := [(16, 20, none), (22, 45, none), (46, 52, none), (15, 15, some 8), (59, 63, none), (65, 88, none), (89, 95, none), (58, 58, some 8), (53, 57, none), (96, 108, none), (0, 0, some 12), (0, 0, some 13)]
def F_cat (s : SG) (minute : Int32) (what : Int32) : Int32 × SG := bif m_cmp .ne (F_isBelow s minute 24) 0 then (let z4 := F_toldTrip s ; bif m_cmp .eq what 0 then ((z4 16 minute.toNatClampNeg, z4)) else (bif m_cmp .eq what 1 then ((z4 17 minute.toNatClampNeg, z4)) else (bif m_cmp .eq what 2 then ((z4 18 minute.toNatClampNeg, z4)) else (bif m_cmp .eq what 3 then ((z4 19 minute.toNatClampNeg, z4)) else (bif m_cmp .eq what 4 then ((z4 20 minute.toNatClampNeg, z4)) else (((-2), z4))))))) else (((-2), s))
set_option maxRecDepth 20000 in
set_option maxHeartbeats 200000 in
theorem fr_cat (s : SG) (minute : Int32) (what : Int32)  : Fr W_cat s (F_cat s minute what).2 := by dsimp only [F_cat]; exact (Fr.bifp (b := m_cmp .ne (F_isBelow s minute 24) 0) (x := let z4 := F_toldTrip s ; bif m_cmp .eq what 0 then ((z4 16 minute.toNatClampNeg, z4)) else (bif m_cmp .eq what 1 then ((z4 17 minute.toNatClampNeg, z4)) else (bif m_cmp .eq what 2 then ((z4 18 minute.toNatClampNeg, z4)) else (bif m_cmp .eq what 3 then ((z4 19 minute.toNatClampNeg, z4)) else (bif m_cmp .eq what 4 then ((z4 20 minute.toNatClampNeg, z4)) else (((-2), z4))))))) (y := ((-2), s)) (fun x : Int32 × SG => x.2) (by (try dsimp only); exact (let z4 : SG := F_toldTrip s ; (Fr.bifp (b := m_cmp .eq what 0) (x := (z4 16 minute.toNatClampNeg, z4)) (y := bif m_cmp .eq what 1 then ((z4 17 minute.toNatClampNeg, z4)) else (bif m_cmp .eq what 2 then ((z4 18 minute.toNatClampNeg, z4)) else (bif m_cmp .eq what 3 then ((z4 19 minute.toNatClampNeg, z4)) else (bif m_cmp .eq what 4 then ((z4 20 minute.toNatClampNeg, z4)) else (((-2), z4)))))) (fun x : Int32 × SG => x.2) (by (try dsimp only); exact (Fr.tr (s1 := s) (Fr.rf _ _) (Fr.wk (W2 := W_cat) (fr_toldTrip s ) (by rfl)))) (by (try dsimp only); exact (Fr.bifp (b := m_cmp .eq what 1) (x := (z4 17 minute.toNatClampNeg, z4)) (y := bif m_cmp .eq what 2 then ((z4 18 minute.toNatClampNeg, z4)) else (bif m_cmp .eq what 3 then ((z4 19 minute.toNatClampNeg, z4)) else (bif m_cmp .eq what 4 then ((z4 20 minute.toNatClampNeg, z4)) else (((-2), z4))))) (fun x : Int32 × SG => x.2) (by (try dsimp only); exact (Fr.tr (s1 := s) (Fr.rf _ _) (Fr.wk (W2 := W_cat) (fr_toldTrip s ) (by rfl)))) (by (try dsimp only); exact (Fr.bifp (b := m_cmp .eq what 2) (x := (z4 18 minute.toNatClampNeg, z4)) (y := bif m_cmp .eq what 3 then ((z4 19 minute.toNatClampNeg, z4)) else (bif m_cmp .eq what 4 then ((z4 20 minute.toNatClampNeg, z4)) else (((-2), z4)))) (fun x : Int32 × SG => x.2) (by (try dsimp only); exact (Fr.tr (s1 := s) (Fr.rf _ _) (Fr.wk (W2 := W_cat) (fr_toldTrip s ) (by rfl)))) (by (try dsimp only); exact (Fr.bifp (b := m_cmp .eq what 3) (x := (z4 19 minute.toNatClampNeg, z4)) (y := bif m_cmp .eq what 4 then ((z4 20 minute.toNatClampNeg, z4)) else (((-2), z4))) (fun x : Int32 × SG => x.2) (by (try dsimp only); exact (Fr.tr (s1 := s) (Fr.rf _ _) (Fr.wk (W2 := W_cat) (fr_toldTrip s ) (by rfl)))) (by (try dsimp only); exact (Fr.bifp (b := m_cmp .eq what 4) (x := (z4 20 minute.toNatClampNeg, z4)) (y := ((-2), z4)) (fun x : Int32 × SG => x.2) (by (try dsimp only); exact (Fr.tr (s1 := s) (Fr.rf _ _) (Fr.wk (W2 := W_cat) (fr_toldTrip s ) (by rfl)))) (by (try dsimp only); exact (Fr.tr (s1 := s) (Fr.rf _ _) (Fr.wk (W2 := W_cat) (fr_toldTrip s ) (by rfl))))))))))))))) (by (try dsimp only); exact (Fr.rf _ _)))
set_option maxRecDepth 20000 in
set_option maxHeartbeats 200000 in
theorem ux_cat (s : SG) (minute : Int32) (what : Int32)  : UP m_X6_at 0 (m_ent 4 [.ref 0, .int minute, .int what]) [] s (Qb (F_cat s minute what)) := by
  refine UP.stp 2 (i1 := 2) (L1 := [some (.ref 0), some (.int minute), some (.int what), none]) (st1 := [.int 24, .int minute]) (s1 := s) rfl ?_
  refine UP.cI (M1 := m_X6_isBelow) (as := [.int minute, .int 24]) (rest := []) (T := F_isBelow s minute 24) rfl rfl (ux_isBelow s minute 24) ?_
  refine UP.spl (m_cmp .ne (F_isBelow s minute 24) 0) (let z4 := F_toldTrip s ; bif m_cmp .eq what 0 then ((z4 16 minute.toNatClampNeg, z4)) else (bif m_cmp .eq what 1 then ((z4 17 minute.toNatClampNeg, z4)) else (bif m_cmp .eq what 2 then ((z4 18 minute.toNatClampNeg, z4)) else (bif m_cmp .eq what 3 then ((z4 19 minute.toNatClampNeg, z4)) else (bif m_cmp .eq what 4 then ((z4 20 minute.toNatClampNeg, z4)) else (((-2), z4))))))) (((-2), s)) (by first | (dsimp only [F_cat]; done) | (dsimp only; done) | rfl) (fun cc => ?_) (fun cc => ?_)
  · skip
    refine UP.ifT rfl cc ?_
    refine UP.stp 1 (i1 := 7) (L1 := [some (.ref 0), some (.int minute), some (.int what), none]) (st1 := [.ref 0]) (s1 := s) rfl ?_
    refine UP.cR (M1 := m_X6_toldTrip) (as := [.ref 0]) (rest := []) (T := F_toldTrip s ) (a := 15) rfl rfl (ux_toldTrip s ) (fun z4 e4 => ?_)
    refine UP.stp 2 (i1 := 10) (L1 := [some (.ref 0), some (.int minute), some (.int what), some (.ref 15)]) (st1 := [.int what]) (s1 := z4) rfl ?_
    refine UP.spl (m_cmp .eq what 0) ((z4 16 minute.toNatClampNeg, z4)) (bif m_cmp .eq what 1 then ((z4 17 minute.toNatClampNeg, z4)) else (bif m_cmp .eq what 2 then ((z4 18 minute.toNatClampNeg, z4)) else (bif m_cmp .eq what 3 then ((z4 19 minute.toNatClampNeg, z4)) else (bif m_cmp .eq what 4 then ((z4 20 minute.toNatClampNeg, z4)) else (((-2), z4)))))) (by subst e4; first | (dsimp only [F_cat]; done) | (dsimp only; done) | rfl) (fun cs0 => ?_) (fun cs0 => ?_)
    · skip
      refine UP.swT 0 rfl cs0 (by decide) (by decide) ?_
      refine UP.stp 4 (i1 := 15) (L1 := [some (.ref 0), some (.int minute), some (.int what), some (.ref 15)]) (st1 := [.int (z4 16 minute.toNatClampNeg)]) (s1 := z4) rfl ?_
      exact UP.ret (r := some (.int (z4 16 minute.toNatClampNeg))) rfl ⟨by subst e4; first | (dsimp only [F_cat]; done) | (dsimp only; done) | rfl, by subst e4; first | (dsimp only [F_cat]; done) | (dsimp only; done) | rfl⟩
    · skip
      refine UP.spl (m_cmp .eq what 1) ((z4 17 minute.toNatClampNeg, z4)) (bif m_cmp .eq what 2 then ((z4 18 minute.toNatClampNeg, z4)) else (bif m_cmp .eq what 3 then ((z4 19 minute.toNatClampNeg, z4)) else (bif m_cmp .eq what 4 then ((z4 20 minute.toNatClampNeg, z4)) else (((-2), z4))))) (by subst e4; first | (dsimp only [F_cat]; done) | (dsimp only; done) | rfl) (fun cs1 => ?_) (fun cs1 => ?_)
      · skip
        refine UP.swT 1 rfl cs1 (by decide) (by decide) ?_
        refine UP.stp 4 (i1 := 20) (L1 := [some (.ref 0), some (.int minute), some (.int what), some (.ref 15)]) (st1 := [.int (z4 17 minute.toNatClampNeg)]) (s1 := z4) rfl ?_
        exact UP.ret (r := some (.int (z4 17 minute.toNatClampNeg))) rfl ⟨by subst e4; first | (dsimp only [F_cat]; done) | (dsimp only; done) | rfl, by subst e4; first | (dsimp only [F_cat]; done) | (dsimp only; done) | rfl⟩
      · skip
        refine UP.spl (m_cmp .eq what 2) ((z4 18 minute.toNatClampNeg, z4)) (bif m_cmp .eq what 3 then ((z4 19 minute.toNatClampNeg, z4)) else (bif m_cmp .eq what 4 then ((z4 20 minute.toNatClampNeg, z4)) else (((-2), z4)))) (by subst e4; first | (dsimp only [F_cat]; done) | (dsimp only; done) | rfl) (fun cs2 => ?_) (fun cs2 => ?_)
        · skip
          refine UP.swT 2 rfl cs2 (by decide) (by decide) ?_
          refine UP.stp 4 (i1 := 25) (L1 := [some (.ref 0), some (.int minute), some (.int what), some (.ref 15)]) (st1 := [.int (z4 18 minute.toNatClampNeg)]) (s1 := z4) rfl ?_
          exact UP.ret (r := some (.int (z4 18 minute.toNatClampNeg))) rfl ⟨by subst e4; first | (dsimp only [F_cat]; done) | (dsimp only; done) | rfl, by subst e4; first | (dsimp only [F_cat]; done) | (dsimp only; done) | rfl⟩
        · skip
          refine UP.spl (m_cmp .eq what 3) ((z4 19 minute.toNatClampNeg, z4)) (bif m_cmp .eq what 4 then ((z4 20 minute.toNatClampNeg, z4)) else (((-2), z4))) (by subst e4; first | (dsimp only [F_cat]; done) | (dsimp only; done) | rfl) (fun cs3 => ?_) (fun cs3 => ?_)
          · skip
            refine UP.swT 3 rfl cs3 (by decide) (by decide) ?_
            refine UP.stp 4 (i1 := 30) (L1 := [some (.ref 0), some (.int minute), some (.int what), some (.ref 15)]) (st1 := [.int (z4 19 minute.toNatClampNeg)]) (s1 := z4) rfl ?_
            exact UP.ret (r := some (.int (z4 19 minute.toNatClampNeg))) rfl ⟨by subst e4; first | (dsimp only [F_cat]; done) | (dsimp only; done) | rfl, by subst e4; first | (dsimp only [F_cat]; done) | (dsimp only; done) | rfl⟩
          · skip
            refine UP.spl (m_cmp .eq what 4) ((z4 20 minute.toNatClampNeg, z4)) (((-2), z4)) (by subst e4; first | (dsimp only [F_cat]; done) | (dsimp only; done) | rfl) (fun cs4 => ?_) (fun cs4 => ?_)
            · skip
              refine UP.swT 4 rfl cs4 (by decide) (by decide) ?_
              refine UP.stp 4 (i1 := 35) (L1 := [some (.ref 0), some (.int minute), some (.int what), some (.ref 15)]) (st1 := [.int (z4 20 minute.toNatClampNeg)]) (s1 := z4) rfl ?_
              exact UP.ret (r := some (.int (z4 20 minute.toNatClampNeg))) rfl ⟨by subst e4; first | (dsimp only [F_cat]; done) | (dsimp only; done) | rfl, by subst e4; first | (dsimp only [F_cat]; done) | (dsimp only; done) | rfl⟩
            · skip
              refine UP.swD rfl (by have c0_ : what.toInt ≠ 0 := ne_int cs0; have c1_ : what.toInt ≠ 1 := ne_int cs1; have c2_ : what.toInt ≠ 2 := ne_int cs2; have c3_ : what.toInt ≠ 3 := ne_int cs3; have c4_ : what.toInt ≠ 4 := ne_int cs4; omega) ?_
              refine UP.stp 1 (i1 := 37) (L1 := [some (.ref 0), some (.int minute), some (.int what), some (.ref 15)]) (st1 := [.int (-2)]) (s1 := z4) rfl ?_
              exact UP.ret (r := some (.int (-2))) rfl ⟨by subst e4; first | (dsimp only [F_cat]; done) | (dsimp only; done) | rfl, by subst e4; first | (dsimp only [F_cat]; done) | (dsimp only; done) | rfl⟩
  · skip
    refine UP.ifF rfl cc ?_
    refine UP.stp 1 (i1 := 5) (L1 := [some (.ref 0), some (.int minute), some (.int what), none]) (st1 := [.int (-2)]) (s1 := s) rfl ?_
    exact UP.ret (r := some (.int (-2))) rfl ⟨by first | (dsimp only [F_cat]; done) | (dsimp only; done) | rfl, by first | (dsimp only [F_cat]; done) | (dsimp only; done) | rfl⟩
end
section
def W_cpulls : List (Nat × Nat × Option Nat) := [(16, 20, none), (22, 45, none), (46, 52, none), (15, 15, some 8), (59, 63, none), (65, 88, none), (89, 95, none), (58, 58, some 8), (53, 57, none), (96, 108, none), (0, 0, some 12), (0, 0, some 13)]
def F_cpulls (s : SG) (minute : Int32) (seat : Int32) : Int32 × SG := bif m_cmp .eq (F_isBelow s minute 24) 0 then (((-2), s)) else (bif m_cmp .ne (F_cisRower s seat) 0 then (let z7 := F_toldTrip s ; (z7 (22 + minute.toNatClampNeg) seat.toNatClampNeg, z7)) else (((-2), s)))
set_option maxRecDepth 20000 in
set_option maxHeartbeats 200000 in
theorem fr_cpulls (s : SG) (minute : Int32) (seat : Int32)  : Fr W_cpulls s (F_cpulls s minute seat).2 := by dsimp only [F_cpulls]; exact (Fr.bifp (b := m_cmp .eq (F_isBelow s minute 24) 0) (x := ((-2), s)) (y := bif m_cmp .ne (F_cisRower s seat) 0 then (let z7 := F_toldTrip s ; (z7 (22 + minute.toNatClampNeg) seat.toNatClampNeg, z7)) else (((-2), s))) (fun x : Int32 × SG => x.2) (by (try dsimp only); exact (Fr.rf _ _)) (by (try dsimp only); exact (Fr.bifp (b := m_cmp .ne (F_cisRower s seat) 0) (x := let z7 := F_toldTrip s ; (z7 (22 + minute.toNatClampNeg) seat.toNatClampNeg, z7)) (y := ((-2), s)) (fun x : Int32 × SG => x.2) (by (try dsimp only); exact (Fr.tr (s1 := s) (Fr.rf _ _) (Fr.wk (W2 := W_cpulls) (fr_toldTrip s ) (by rfl)))) (by (try dsimp only); exact (Fr.rf _ _)))))
set_option maxRecDepth 20000 in
set_option maxHeartbeats 200000 in
theorem ux_cpulls (s : SG) (minute : Int32) (seat : Int32)  : UP m_X6_pulls 0 (m_ent 3 [.ref 0, .int minute, .int seat]) [] s (Qb (F_cpulls s minute seat)) := by
  refine UP.stp 2 (i1 := 2) (L1 := [some (.ref 0), some (.int minute), some (.int seat)]) (st1 := [.int 24, .int minute]) (s1 := s) rfl ?_
  refine UP.cI (M1 := m_X6_isBelow) (as := [.int minute, .int 24]) (rest := []) (T := F_isBelow s minute 24) rfl rfl (ux_isBelow s minute 24) ?_
  refine UP.spl (m_cmp .eq (F_isBelow s minute 24) 0) (((-2), s)) (bif m_cmp .ne (F_cisRower s seat) 0 then (let z7 := F_toldTrip s ; (z7 (22 + minute.toNatClampNeg) seat.toNatClampNeg, z7)) else (((-2), s))) (by first | (dsimp only [F_cpulls]; done) | (dsimp only; done) | rfl) (fun cc => ?_) (fun cc => ?_)
  · skip
    refine UP.ifT rfl cc ?_
    refine UP.stp 1 (i1 := 9) (L1 := [some (.ref 0), some (.int minute), some (.int seat)]) (st1 := [.int (-2)]) (s1 := s) rfl ?_
    exact UP.ret (r := some (.int (-2))) rfl ⟨by first | (dsimp only [F_cpulls]; done) | (dsimp only; done) | rfl, by first | (dsimp only [F_cpulls]; done) | (dsimp only; done) | rfl⟩
  · skip
    refine UP.ifF rfl cc ?_
    refine UP.stp 2 (i1 := 6) (L1 := [some (.ref 0), some (.int minute), some (.int seat)]) (st1 := [.int seat, .ref 0]) (s1 := s) rfl ?_
    refine UP.cI (M1 := m_X6_isRower) (as := [.ref 0, .int seat]) (rest := []) (T := F_cisRower s seat) rfl rfl (ux_cisRower s seat) ?_
    refine UP.spl (m_cmp .ne (F_cisRower s seat) 0) (let z7 := F_toldTrip s ; (z7 (22 + minute.toNatClampNeg) seat.toNatClampNeg, z7)) (((-2), s)) (by first | (dsimp only [F_cpulls]; done) | (dsimp only; done) | rfl) (fun cc => ?_) (fun cc => ?_)
    · skip
      refine UP.ifT rfl cc ?_
      refine UP.stp 1 (i1 := 11) (L1 := [some (.ref 0), some (.int minute), some (.int seat)]) (st1 := [.ref 0]) (s1 := s) rfl ?_
      refine UP.cR (M1 := m_X6_toldTrip) (as := [.ref 0]) (rest := []) (T := F_toldTrip s ) (a := 15) rfl rfl (ux_toldTrip s ) (fun z7 e7 => ?_)
      refine UP.stp 2 (i1 := 14) (L1 := [some (.ref 0), some (.int minute), some (.int seat)]) (st1 := [.int minute, .ref 21]) (s1 := z7) rfl ?_
      refine UP.stp 3 (i1 := 17) (L1 := [some (.ref 0), some (.int minute), some (.int seat)]) (st1 := [.int (z7 (22 + minute.toNatClampNeg) seat.toNatClampNeg)]) (s1 := z7) rfl ?_
      exact UP.ret (r := some (.int (z7 (22 + minute.toNatClampNeg) seat.toNatClampNeg))) rfl ⟨by subst e7; first | (dsimp only [F_cpulls]; done) | (dsimp only; done) | rfl, by subst e7; first | (dsimp only [F_cpulls]; done) | (dsimp only; done) | rfl⟩
    · skip
      refine UP.ifF rfl cc ?_
      refine UP.stp 1 (i1 := 9) (L1 := [some (.ref 0), some (.int minute), some (.int seat)]) (st1 := [.int (-2)]) (s1 := s) rfl ?_
      exact UP.ret (r := some (.int (-2))) rfl ⟨by first | (dsimp only [F_cpulls]; done) | (dsimp only; done) | rfl, by first | (dsimp only [F_cpulls]; done) | (dsimp only; done) | rfl⟩
def W_cdone : List (Nat × Nat × Option Nat) := [(16, 20, none), (22, 45, none), (46, 52, none), (15, 15, some 8), (59, 63, none), (65, 88, none), (89, 95, none), (58, 58, some 8), (53, 57, none), (96, 108, none), (0, 0, some 12), (0, 0, some 13)]
def F_cdone (s : SG) (seat : Int32) (what : Int32) : Int32 × SG := bif m_cmp .eq (F_cisRower s seat) 0 then (((-2), s)) else (bif m_cmp .ne (F_isBelow s what 2) 0 then (let z7 := F_toldTrip s ; let v8 := bif m_cmp .ne what 0 then z7 47 seat.toNatClampNeg else z7 46 seat.toNatClampNeg; (v8, z7)) else (((-2), s)))
set_option maxRecDepth 20000 in
set_option maxHeartbeats 200000 in
theorem fr_cdone (s : SG) (seat : Int32) (what : Int32)  : Fr W_cdone s (F_cdone s seat what).2 := by dsimp only [F_cdone]; exact (Fr.bifp (b := m_cmp .eq (F_cisRower s seat) 0) (x := ((-2), s)) (y := bif m_cmp .ne (F_isBelow s what 2) 0 then (let z7 := F_toldTrip s ; let v8 := bif m_cmp .ne what 0 then z7 47 seat.toNatClampNeg else z7 46 seat.toNatClampNeg; (v8, z7)) else (((-2), s))) (fun x : Int32 × SG => x.2) (by (try dsimp only); exact (Fr.rf _ _)) (by (try dsimp only); exact (Fr.bifp (b := m_cmp .ne (F_isBelow s what 2) 0) (x := let z7 := F_toldTrip s ; let v8 := bif m_cmp .ne what 0 then z7 47 seat.toNatClampNeg else z7 46 seat.toNatClampNeg; (v8, z7)) (y := ((-2), s)) (fun x : Int32 × SG => x.2) (by (try dsimp only); exact (Fr.tr (s1 := s) (Fr.rf _ _) (Fr.wk (W2 := W_cdone) (fr_toldTrip s ) (by rfl)))) (by (try dsimp only); exact (Fr.rf _ _)))))
set_option maxRecDepth 20000 in
set_option maxHeartbeats 200000 in
theorem ux_cdone (s : SG) (seat : Int32) (what : Int32)  : UP m_X6_done 0 (m_ent 4 [.ref 0, .int seat, .int what]) [] s (Qb (F_cdone s seat what)) := by
  refine UP.stp 2 (i1 := 2) (L1 := [some (.ref 0), some (.int seat), some (.int what), none]) (st1 := [.int seat, .ref 0]) (s1 := s) rfl ?_
  refine UP.cI (M1 := m_X6_isRower) (as := [.ref 0, .int seat]) (rest := []) (T := F_cisRower s seat) rfl rfl (ux_cisRower s seat) ?_
  refine UP.spl (m_cmp .eq (F_cisRower s seat) 0) (((-2), s)) (bif m_cmp .ne (F_isBelow s what 2) 0 then (let z7 := F_toldTrip s ; let v8 := bif m_cmp .ne what 0 then z7 47 seat.toNatClampNeg else z7 46 seat.toNatClampNeg; (v8, z7)) else (((-2), s))) (by first | (dsimp only [F_cdone]; done) | (dsimp only; done) | rfl) (fun cc => ?_) (fun cc => ?_)
  · skip
    refine UP.ifT rfl cc ?_
    refine UP.stp 1 (i1 := 9) (L1 := [some (.ref 0), some (.int seat), some (.int what), none]) (st1 := [.int (-2)]) (s1 := s) rfl ?_
    exact UP.ret (r := some (.int (-2))) rfl ⟨by first | (dsimp only [F_cdone]; done) | (dsimp only; done) | rfl, by first | (dsimp only [F_cdone]; done) | (dsimp only; done) | rfl⟩
  · skip
    refine UP.ifF rfl cc ?_
    refine UP.stp 2 (i1 := 6) (L1 := [some (.ref 0), some (.int seat), some (.int what), none]) (st1 := [.int 2, .int what]) (s1 := s) rfl ?_
    refine UP.cI (M1 := m_X6_isBelow) (as := [.int what, .int 2]) (rest := []) (T := F_isBelow s what 2) rfl rfl (ux_isBelow s what 2) ?_
    refine UP.spl (m_cmp .ne (F_isBelow s what 2) 0) (let z7 := F_toldTrip s ; let v8 := bif m_cmp .ne what 0 then z7 47 seat.toNatClampNeg else z7 46 seat.toNatClampNeg; (v8, z7)) (((-2), s)) (by first | (dsimp only [F_cdone]; done) | (dsimp only; done) | rfl) (fun cc => ?_) (fun cc => ?_)
    · skip
      refine UP.ifT rfl cc ?_
      refine UP.stp 1 (i1 := 11) (L1 := [some (.ref 0), some (.int seat), some (.int what), none]) (st1 := [.ref 0]) (s1 := s) rfl ?_
      refine UP.cR (M1 := m_X6_toldTrip) (as := [.ref 0]) (rest := []) (T := F_toldTrip s ) (a := 15) rfl rfl (ux_toldTrip s ) (fun z7 e7 => ?_)
      refine UP.stp 2 (i1 := 14) (L1 := [some (.ref 0), some (.int seat), some (.int what), some (.ref 15)]) (st1 := [.int what]) (s1 := z7) rfl ?_
      refine mrg (m_cmp .ne what 0) (z7 47 seat.toNatClampNeg) (z7 46 seat.toNatClampNeg) (fun v8 : Int32 => UP m_X6_done 24 [some (.ref 0), some (.int seat), some (.int what), some (.ref 15)] [.int v8] z7 (Qb (let z7 := F_toldTrip s ; let v8 := bif m_cmp .ne what 0 then z7 47 seat.toNatClampNeg else z7 46 seat.toNatClampNeg; (v8, z7)))) (fun cc kk => ?_) (fun cc kk => ?_) (fun v8 e8 => ?_)
      · skip
        refine UP.ifT rfl cc ?_
        refine UP.stp 4 (i1 := 24) (L1 := [some (.ref 0), some (.int seat), some (.int what), some (.ref 15)]) (st1 := [.int (z7 47 seat.toNatClampNeg)]) (s1 := z7) rfl ?_
        exact kk
      · skip
        refine UP.ifF rfl cc ?_
        refine UP.stp 5 (i1 := 24) (L1 := [some (.ref 0), some (.int seat), some (.int what), some (.ref 15)]) (st1 := [.int (z7 46 seat.toNatClampNeg)]) (s1 := z7) rfl ?_
        exact kk
      exact UP.ret (r := some (.int v8)) rfl ⟨by subst e8 e7; first | (dsimp only [F_cdone]; done) | (dsimp only; done) | rfl, by subst e8 e7; first | (dsimp only [F_cdone]; done) | (dsimp only; done) | rfl⟩
    · skip
      refine UP.ifF rfl cc ?_
      refine UP.stp 1 (i1 := 9) (L1 := [some (.ref 0), some (.int seat), some (.int what), none]) (st1 := [.int (-2)]) (s1 := s) rfl ?_
      exact UP.ret (r := some (.int (-2))) rfl ⟨by first | (dsimp only [F_cdone]; done) | (dsimp only; done) | rfl, by first | (dsimp only [F_cdone]; done) | (dsimp only; done) | rfl⟩
def W_cthere : List (Nat × Nat × Option Nat) := [(16, 20, none), (22, 45, none), (46, 52, none), (15, 15, some 8), (59, 63, none), (65, 88, none), (89, 95, none), (58, 58, some 8), (53, 57, none), (96, 108, none), (0, 0, some 12), (0, 0, some 13)]
def F_cthere (s : SG)  : Int32 × SG := let z1 := F_toldTrip s ; (z1 15 8, z1)
set_option maxRecDepth 20000 in
set_option maxHeartbeats 200000 in
theorem fr_cthere (s : SG)   : Fr W_cthere s (F_cthere s).2 := by dsimp only [F_cthere]; exact (Fr.tr (s1 := s) (Fr.rf _ _) (Fr.wk (W2 := W_cthere) (fr_toldTrip s ) (by rfl)))
set_option maxRecDepth 20000 in
set_option maxHeartbeats 200000 in
theorem ux_cthere (s : SG)   : UP m_X6_there 0 (m_ent 1 [.ref 0]) [] s (Qb (F_cthere s)) := by
  refine UP.stp 1 (i1 := 1) (L1 := [some (.ref 0)]) (st1 := [.ref 0]) (s1 := s) rfl ?_
  refine UP.cR (M1 := m_X6_toldTrip) (as := [.ref 0]) (rest := []) (T := F_toldTrip s ) (a := 15) rfl rfl (ux_toldTrip s ) (fun z1 e1 => ?_)
  refine UP.stp 1 (i1 := 3) (L1 := [some (.ref 0)]) (st1 := [.int (z1 15 8)]) (s1 := z1) rfl ?_
  exact UP.ret (r := some (.int (z1 15 8))) rfl ⟨by subst e1; first | (dsimp only [F_cthere]; done) | (dsimp only; done) | rfl, by subst e1; first | (dsimp only [F_cthere]; done) | (dsimp only; done) | rfl⟩
end
section
def W_cgrounded : List (Nat × Nat × Option Nat) := [(16, 20, none), (22, 45, none), (46, 52, none), (15, 15, some 8), (59, 63, none), (65, 88, none), (89, 95, none), (58, 58, some 8), (53, 57, none), (96, 108, none), (0, 0, some 12), (0, 0, some 13)]
def F_cgrounded (s : SG) (what : Int32) : Int32 × SG := bif m_cmp .ne (F_isBelow s what 2) 0 then (let v8 := bif m_cmp .ne what 0 then F_firstAground_a (F_toldTrip s ) else F_minutesAground_a (F_toldTrip s ); (v8, (F_toldTrip s ))) else (((-2), s))
set_option maxRecDepth 20000 in
set_option maxHeartbeats 200000 in
theorem fr_cgrounded (s : SG) (what : Int32)  : Fr W_cgrounded s (F_cgrounded s what).2 := by dsimp only [F_cgrounded]; exact (Fr.bifp (b := m_cmp .ne (F_isBelow s what 2) 0) (x := let v8 := bif m_cmp .ne what 0 then F_firstAground_a (F_toldTrip s ) else F_minutesAground_a (F_toldTrip s ); (v8, (F_toldTrip s ))) (y := ((-2), s)) (fun x : Int32 × SG => x.2) (by (try dsimp only); exact (Fr.tr (s1 := s) (Fr.rf _ _) (Fr.wk (W2 := W_cgrounded) (fr_toldTrip s ) (by rfl)))) (by (try dsimp only); exact (Fr.rf _ _)))
set_option maxRecDepth 20000 in
set_option maxHeartbeats 200000 in
theorem ux_cgrounded (s : SG) (what : Int32)  : UP m_X6_grounded 0 (m_ent 2 [.ref 0, .int what]) [] s (Qb (F_cgrounded s what)) := by
  refine UP.stp 2 (i1 := 2) (L1 := [some (.ref 0), some (.int what)]) (st1 := [.int 2, .int what]) (s1 := s) rfl ?_
  refine UP.cI (M1 := m_X6_isBelow) (as := [.int what, .int 2]) (rest := []) (T := F_isBelow s what 2) rfl rfl (ux_isBelow s what 2) ?_
  refine UP.spl (m_cmp .ne (F_isBelow s what 2) 0) (let v8 := bif m_cmp .ne what 0 then F_firstAground_a (F_toldTrip s ) else F_minutesAground_a (F_toldTrip s ); (v8, (F_toldTrip s ))) (((-2), s)) (by first | (dsimp only [F_cgrounded]; done) | (dsimp only; done) | rfl) (fun cc => ?_) (fun cc => ?_)
  · skip
    refine UP.ifT rfl cc ?_
    refine UP.stp 1 (i1 := 7) (L1 := [some (.ref 0), some (.int what)]) (st1 := [.int what]) (s1 := s) rfl ?_
    refine mrg (m_cmp .ne what 0) (F_firstAground_a (F_toldTrip s )) (F_minutesAground_a (F_toldTrip s )) (fun v8 : Int32 => UP m_X6_grounded 15 [some (.ref 0), some (.int what)] [.int v8] (F_toldTrip s ) (Qb (let v8 := bif m_cmp .ne what 0 then F_firstAground_a (F_toldTrip s ) else F_minutesAground_a (F_toldTrip s ); (v8, (F_toldTrip s ))))) (fun cc kk => ?_) (fun cc kk => ?_) (fun v8 e8 => ?_)
    · skip
      refine UP.ifT rfl cc ?_
      refine UP.stp 1 (i1 := 13) (L1 := [some (.ref 0), some (.int what)]) (st1 := [.ref 0]) (s1 := s) rfl ?_
      refine UP.cR (M1 := m_X6_toldTrip) (as := [.ref 0]) (rest := []) (T := F_toldTrip s ) (a := 15) rfl rfl (ux_toldTrip s ) (fun z4 e4 => ?_)
      refine UP.cI (M1 := m_X5_firstAground) (as := [.ref 15]) (rest := []) (T := F_firstAground_a z4 ) rfl rfl (ux_firstAground_a z4) ?_
      subst e4
      exact kk
    · skip
      refine UP.ifF rfl cc ?_
      refine UP.stp 1 (i1 := 9) (L1 := [some (.ref 0), some (.int what)]) (st1 := [.ref 0]) (s1 := s) rfl ?_
      refine UP.cR (M1 := m_X6_toldTrip) (as := [.ref 0]) (rest := []) (T := F_toldTrip s ) (a := 15) rfl rfl (ux_toldTrip s ) (fun z6 e6 => ?_)
      refine UP.cI (M1 := m_X5_minutesAground) (as := [.ref 15]) (rest := []) (T := F_minutesAground_a z6 ) rfl rfl (ux_minutesAground_a z6) ?_
      refine UP.stp 1 (i1 := 15) (L1 := [some (.ref 0), some (.int what)]) (st1 := [.int (F_minutesAground_a z6)]) (s1 := z6) rfl ?_
      subst e6
      exact kk
    exact UP.ret (r := some (.int v8)) rfl ⟨by subst e8; first | (dsimp only [F_cgrounded]; done) | (dsimp only; done) | rfl, by subst e8; first | (dsimp only [F_cgrounded]; done) | (dsimp only; done) | rfl⟩
  · skip
    refine UP.ifF rfl cc ?_
    refine UP.stp 1 (i1 := 5) (L1 := [some (.ref 0), some (.int what)]) (st1 := [.int (-2)]) (s1 := s) rfl ?_
    exact UP.ret (r := some (.int (-2))) rfl ⟨by first | (dsimp only [F_cgrounded]; done) | (dsimp only; done) | rfl, by first | (dsimp only [F_cgrounded]; done) | (dsimp only; done) | rfl⟩
def W_cstray : List (Nat × Nat × Option Nat) := [(16, 20, none), (22, 45, none), (46, 52, none), (15, 15, some 8), (59, 63, none), (65, 88, none), (89, 95, none), (58, 58, some 8), (53, 57, none), (96, 108, none), (0, 0, some 12), (0, 0, some 13)]
def F_cstray (s : SG) (what : Int32) : Int32 × SG := bif m_cmp .ne (F_isBelow s what 2) 0 then (let v8 := bif m_cmp .ne what 0 then F_farthestStray_a (F_toldTrip s ) else F_lastStray_a (F_toldTrip s ); (v8, (F_toldTrip s ))) else (((-2), s))
set_option maxRecDepth 20000 in
set_option maxHeartbeats 200000 in
theorem fr_cstray (s : SG) (what : Int32)  : Fr W_cstray s (F_cstray s what).2 := by dsimp only [F_cstray]; exact (Fr.bifp (b := m_cmp .ne (F_isBelow s what 2) 0) (x := let v8 := bif m_cmp .ne what 0 then F_farthestStray_a (F_toldTrip s ) else F_lastStray_a (F_toldTrip s ); (v8, (F_toldTrip s ))) (y := ((-2), s)) (fun x : Int32 × SG => x.2) (by (try dsimp only); exact (Fr.tr (s1 := s) (Fr.rf _ _) (Fr.wk (W2 := W_cstray) (fr_toldTrip s ) (by rfl)))) (by (try dsimp only); exact (Fr.rf _ _)))
set_option maxRecDepth 20000 in
set_option maxHeartbeats 200000 in
theorem ux_cstray (s : SG) (what : Int32)  : UP m_X6_stray 0 (m_ent 2 [.ref 0, .int what]) [] s (Qb (F_cstray s what)) := by
  refine UP.stp 2 (i1 := 2) (L1 := [some (.ref 0), some (.int what)]) (st1 := [.int 2, .int what]) (s1 := s) rfl ?_
  refine UP.cI (M1 := m_X6_isBelow) (as := [.int what, .int 2]) (rest := []) (T := F_isBelow s what 2) rfl rfl (ux_isBelow s what 2) ?_
  refine UP.spl (m_cmp .ne (F_isBelow s what 2) 0) (let v8 := bif m_cmp .ne what 0 then F_farthestStray_a (F_toldTrip s ) else F_lastStray_a (F_toldTrip s ); (v8, (F_toldTrip s ))) (((-2), s)) (by first | (dsimp only [F_cstray]; done) | (dsimp only; done) | rfl) (fun cc => ?_) (fun cc => ?_)
  · skip
    refine UP.ifT rfl cc ?_
    refine UP.stp 1 (i1 := 7) (L1 := [some (.ref 0), some (.int what)]) (st1 := [.int what]) (s1 := s) rfl ?_
    refine mrg (m_cmp .ne what 0) (F_farthestStray_a (F_toldTrip s )) (F_lastStray_a (F_toldTrip s )) (fun v8 : Int32 => UP m_X6_stray 15 [some (.ref 0), some (.int what)] [.int v8] (F_toldTrip s ) (Qb (let v8 := bif m_cmp .ne what 0 then F_farthestStray_a (F_toldTrip s ) else F_lastStray_a (F_toldTrip s ); (v8, (F_toldTrip s ))))) (fun cc kk => ?_) (fun cc kk => ?_) (fun v8 e8 => ?_)
    · skip
      refine UP.ifT rfl cc ?_
      refine UP.stp 1 (i1 := 13) (L1 := [some (.ref 0), some (.int what)]) (st1 := [.ref 0]) (s1 := s) rfl ?_
      refine UP.cR (M1 := m_X6_toldTrip) (as := [.ref 0]) (rest := []) (T := F_toldTrip s ) (a := 15) rfl rfl (ux_toldTrip s ) (fun z4 e4 => ?_)
      refine UP.cI (M1 := m_X5_farthestStray) (as := [.ref 15]) (rest := []) (T := F_farthestStray_a z4 ) rfl rfl (ux_farthestStray_a z4) ?_
      subst e4
      exact kk
    · skip
      refine UP.ifF rfl cc ?_
      refine UP.stp 1 (i1 := 9) (L1 := [some (.ref 0), some (.int what)]) (st1 := [.ref 0]) (s1 := s) rfl ?_
      refine UP.cR (M1 := m_X6_toldTrip) (as := [.ref 0]) (rest := []) (T := F_toldTrip s ) (a := 15) rfl rfl (ux_toldTrip s ) (fun z6 e6 => ?_)
      refine UP.cI (M1 := m_X5_lastStray) (as := [.ref 15]) (rest := []) (T := F_lastStray_a z6 ) rfl rfl (ux_lastStray_a z6) ?_
      refine UP.stp 1 (i1 := 15) (L1 := [some (.ref 0), some (.int what)]) (st1 := [.int (F_lastStray_a z6)]) (s1 := z6) rfl ?_
      subst e6
      exact kk
    exact UP.ret (r := some (.int v8)) rfl ⟨by subst e8; first | (dsimp only [F_cstray]; done) | (dsimp only; done) | rfl, by subst e8; first | (dsimp only [F_cstray]; done) | (dsimp only; done) | rfl⟩
  · skip
    refine UP.ifF rfl cc ?_
    refine UP.stp 1 (i1 := 5) (L1 := [some (.ref 0), some (.int what)]) (st1 := [.int (-2)]) (s1 := s) rfl ?_
    exact UP.ret (r := some (.int (-2))) rfl ⟨by first | (dsimp only [F_cstray]; done) | (dsimp only; done) | rfl, by first | (dsimp only [F_cstray]; done) | (dsimp only; done) | rfl⟩
end
section
def W_cbest : List (Nat × Nat × Option Nat) := [(16, 20, none), (22, 45, none), (46, 52, none), (15, 15, some 8), (59, 63, none), (65, 88, none), (89, 95, none), (58, 58, some 8), (53, 57, none), (96, 108, none), (0, 0, some 12), (0, 0, some 13)]
def B_cbest_7 (z1 : SG) (i2 : Nat) (a2 : Int32) : Int32 := let v5 := bif m_cmp .le (z1 46 i2) 0 then a2 else (bif m_cmp .eq a2 (-1) then Int32.ofNat i2 else (bif m_cmp .le (z1 47 i2) (z1 47 a2.toNatClampNeg) then a2 else Int32.ofNat i2)); v5
def F_cbest (s : SG)  : Int32 × SG := let z1 := F_toldTrip s ; let z2 := itr (B_cbest_7 z1) 0 ((z1 10 0).toNatClampNeg) (-1 : Int32); (z2, z1)
set_option maxRecDepth 20000 in
set_option maxHeartbeats 200000 in
theorem fr_cbest (s : SG)   : Fr W_cbest s (F_cbest s).2 := by dsimp only [F_cbest]; exact (Fr.tr (s1 := s) (Fr.rf _ _) (Fr.wk (W2 := W_cbest) (fr_toldTrip s ) (by rfl)))
set_option maxRecDepth 20000 in
set_option maxHeartbeats 200000 in
theorem ux_cbest (s : SG)   : UP m_X6_best 0 (m_ent 4 [.ref 0]) [] s (Qb (F_cbest s)) := by
  refine UP.stp 1 (i1 := 1) (L1 := [some (.ref 0), none, none, none]) (st1 := [.ref 0]) (s1 := s) rfl ?_
  refine UP.cR (M1 := m_X6_toldTrip) (as := [.ref 0]) (rest := []) (T := F_toldTrip s ) (a := 15) rfl rfl (ux_toldTrip s ) (fun z1 e1 => ?_)
  refine UP.stp 5 (i1 := 7) (L1 := [some (.ref 0), some (.ref 15), some (.int (-1)), some (.int 0)]) (st1 := []) (s1 := z1) rfl ?_
  refine lp (fun (i2 : Nat) (a2 : Int32) => UP m_X6_best 7 [some (.ref 0), some (.ref 15), some (.int a2), some (.int (Int32.ofNat i2))] [] z1 (Qb (F_cbest s))) (fun (_ : Nat) (a2 : Int32) => Fr W_cbest z1 z1) (B_cbest_7 z1) ((z1 10 0).toNatClampNeg) (fun i2 a2 hi2 g2 => g2) (fun i2 a2 hi2 g2 kk => ?_) ((z1 10 0).toNatClampNeg) (0) (-1 : Int32) (by  omega) (Fr.rf _ _) (fun z2 e2 g2 => ?_)
  · skip
    have hbi2 := cl_lt (z1 10 0)
    refine UP.stp 4 (i1 := 11) (L1 := [some (.ref 0), some (.ref 15), some (.int a2), some (.int (Int32.ofNat i2))]) (st1 := [.int (z1 10 0), .int (Int32.ofNat i2)]) (s1 := z1) rfl ?_
    refine UP.icF rfl (ge_F hi2) ?_
    refine UP.stp 3 (i1 := 15) (L1 := [some (.ref 0), some (.ref 15), some (.int a2), some (.int (Int32.ofNat i2))]) (st1 := [.int (Int32.ofNat i2), .ref 46]) (s1 := z1) rfl ?_
    refine UP.ald (e := i2) rfl rfl (by omega) ?_
    show UP m_X6_best 16 [some (.ref 0), some (.ref 15), some (.int a2), some (.int (Int32.ofNat i2))] [.int (z1 46 i2)] z1 (Qb (F_cbest s))
    refine mrg (m_cmp .le (z1 46 i2) 0) a2 (bif m_cmp .eq a2 (-1) then Int32.ofNat i2 else (bif m_cmp .le (z1 47 i2) (z1 47 a2.toNatClampNeg) then a2 else Int32.ofNat i2)) (fun v5 : Int32 => UP m_X6_best 31 [some (.ref 0), some (.ref 15), some (.int v5), some (.int (Int32.ofNat i2))] [] z1 (Qb (F_cbest s))) (fun cc kk => ?_) (fun cc kk => ?_) (fun v5 e5 => ?_)
    · skip
      refine UP.ifT rfl cc ?_
      exact kk
    · skip
      refine UP.ifF rfl cc ?_
      refine UP.stp 2 (i1 := 19) (L1 := [some (.ref 0), some (.ref 15), some (.int a2), some (.int (Int32.ofNat i2))]) (st1 := [.int (-1), .int a2]) (s1 := z1) rfl ?_
      refine mrg (m_cmp .eq a2 (-1)) (Int32.ofNat i2) (bif m_cmp .le (z1 47 i2) (z1 47 a2.toNatClampNeg) then a2 else Int32.ofNat i2) (fun v4 : Int32 => UP m_X6_best 31 [some (.ref 0), some (.ref 15), some (.int v4), some (.int (Int32.ofNat i2))] [] z1 (Qb (F_cbest s))) (fun cc kk => ?_) (fun cc kk => ?_) (fun v4 e4 => ?_)
      · skip
        refine UP.icT rfl cc ?_
        refine UP.stp 2 (i1 := 31) (L1 := [some (.ref 0), some (.ref 15), some (.int (Int32.ofNat i2)), some (.int (Int32.ofNat i2))]) (st1 := []) (s1 := z1) rfl ?_
        exact kk
      · skip
        refine UP.icF rfl cc ?_
        refine UP.stp 3 (i1 := 23) (L1 := [some (.ref 0), some (.ref 15), some (.int a2), some (.int (Int32.ofNat i2))]) (st1 := [.int (Int32.ofNat i2), .ref 47]) (s1 := z1) rfl ?_
        refine UP.ald (e := i2) rfl rfl (by omega) ?_
        show UP m_X6_best 24 [some (.ref 0), some (.ref 15), some (.int a2), some (.int (Int32.ofNat i2))] [.int (z1 47 i2)] z1 (Qb (F_cbest s))
        refine UP.stp 4 (i1 := 28) (L1 := [some (.ref 0), some (.ref 15), some (.int a2), some (.int (Int32.ofNat i2))]) (st1 := [.int (z1 47 a2.toNatClampNeg), .int (z1 47 i2)]) (s1 := z1) rfl ?_
        refine mrg (m_cmp .le (z1 47 i2) (z1 47 a2.toNatClampNeg)) a2 (Int32.ofNat i2) (fun v3 : Int32 => UP m_X6_best 31 [some (.ref 0), some (.ref 15), some (.int v3), some (.int (Int32.ofNat i2))] [] z1 (Qb (F_cbest s))) (fun cc kk => ?_) (fun cc kk => ?_) (fun v3 e3 => ?_)
        · skip
          refine UP.icT rfl cc ?_
          exact kk
        · skip
          refine UP.icF rfl cc ?_
          refine UP.stp 2 (i1 := 31) (L1 := [some (.ref 0), some (.ref 15), some (.int (Int32.ofNat i2)), some (.int (Int32.ofNat i2))]) (st1 := []) (s1 := z1) rfl ?_
          exact kk
        subst e3
        exact kk
      subst e4
      exact kk
    refine UP.stp 2 (i1 := 7) (L1 := [some (.ref 0), some (.ref 15), some (.int v5), some (.int ((Int32.ofNat i2) + 1))]) (st1 := []) (s1 := z1) rfl ?_
    subst e5
    rw [ofn_s]
    try dsimp only [B_cbest_7] at kk
    exact kk
  refine UP.stp 4 (i1 := 11) (L1 := [some (.ref 0), some (.ref 15), some (.int z2), some (.int (Int32.ofNat ((z1 10 0).toNatClampNeg)))]) (st1 := [.int (z1 10 0), .int (Int32.ofNat ((z1 10 0).toNatClampNeg))]) (s1 := z1) rfl ?_
  refine UP.icT rfl (ge_T _) ?_
  refine UP.stp 1 (i1 := 34) (L1 := [some (.ref 0), some (.ref 15), some (.int z2), some (.int (Int32.ofNat ((z1 10 0).toNatClampNeg)))]) (st1 := [.int z2]) (s1 := z1) rfl ?_
  exact UP.ret (r := some (.int z2)) rfl ⟨by subst e2 e1; first | (dsimp only [F_cbest]; done) | (dsimp only; done) | rfl, by subst e2 e1; first | (dsimp only [F_cbest]; done) | (dsimp only; done) | rfl⟩
def W_cidle : List (Nat × Nat × Option Nat) := [(16, 20, none), (22, 45, none), (46, 52, none), (15, 15, some 8), (59, 63, none), (65, 88, none), (89, 95, none), (58, 58, some 8), (53, 57, none), (96, 108, none), (0, 0, some 12), (0, 0, some 13)]
def B_cidle_7 (z1 : SG) (i2 : Nat) (a2 : Int32) : Int32 := let v4 := bif m_cmp .ne (z1 46 i2) 0 then a2 else (a2 ||| (1 <<< ((Int32.ofNat i2) &&& 31))); v4
def F_cidle (s : SG)  : Int32 × SG := let z1 := F_toldTrip s ; let z2 := itr (B_cidle_7 z1) 0 ((z1 10 0).toNatClampNeg) (0 : Int32); (z2, z1)
set_option maxRecDepth 20000 in
set_option maxHeartbeats 200000 in
theorem fr_cidle (s : SG)   : Fr W_cidle s (F_cidle s).2 := by dsimp only [F_cidle]; exact (Fr.tr (s1 := s) (Fr.rf _ _) (Fr.wk (W2 := W_cidle) (fr_toldTrip s ) (by rfl)))
set_option maxRecDepth 20000 in
set_option maxHeartbeats 200000 in
theorem ux_cidle (s : SG)   : UP m_X6_idle 0 (m_ent 4 [.ref 0]) [] s (Qb (F_cidle s)) := by
  refine UP.stp 1 (i1 := 1) (L1 := [some (.ref 0), none, none, none]) (st1 := [.ref 0]) (s1 := s) rfl ?_
  refine UP.cR (M1 := m_X6_toldTrip) (as := [.ref 0]) (rest := []) (T := F_toldTrip s ) (a := 15) rfl rfl (ux_toldTrip s ) (fun z1 e1 => ?_)
  refine UP.stp 5 (i1 := 7) (L1 := [some (.ref 0), some (.ref 15), some (.int 0), some (.int 0)]) (st1 := []) (s1 := z1) rfl ?_
  refine lp (fun (i2 : Nat) (a2 : Int32) => UP m_X6_idle 7 [some (.ref 0), some (.ref 15), some (.int a2), some (.int (Int32.ofNat i2))] [] z1 (Qb (F_cidle s))) (fun (_ : Nat) (a2 : Int32) => Fr W_cidle z1 z1) (B_cidle_7 z1) ((z1 10 0).toNatClampNeg) (fun i2 a2 hi2 g2 => g2) (fun i2 a2 hi2 g2 kk => ?_) ((z1 10 0).toNatClampNeg) (0) (0 : Int32) (by  omega) (Fr.rf _ _) (fun z2 e2 g2 => ?_)
  · skip
    have hbi2 := cl_lt (z1 10 0)
    refine UP.stp 4 (i1 := 11) (L1 := [some (.ref 0), some (.ref 15), some (.int a2), some (.int (Int32.ofNat i2))]) (st1 := [.int (z1 10 0), .int (Int32.ofNat i2)]) (s1 := z1) rfl ?_
    refine UP.icF rfl (ge_F hi2) ?_
    refine UP.stp 3 (i1 := 15) (L1 := [some (.ref 0), some (.ref 15), some (.int a2), some (.int (Int32.ofNat i2))]) (st1 := [.int (Int32.ofNat i2), .ref 46]) (s1 := z1) rfl ?_
    refine UP.ald (e := i2) rfl rfl (by omega) ?_
    show UP m_X6_idle 16 [some (.ref 0), some (.ref 15), some (.int a2), some (.int (Int32.ofNat i2))] [.int (z1 46 i2)] z1 (Qb (F_cidle s))
    refine mrg (m_cmp .ne (z1 46 i2) 0) a2 (a2 ||| (1 <<< ((Int32.ofNat i2) &&& 31))) (fun v4 : Int32 => UP m_X6_idle 23 [some (.ref 0), some (.ref 15), some (.int v4), some (.int (Int32.ofNat i2))] [] z1 (Qb (F_cidle s))) (fun cc kk => ?_) (fun cc kk => ?_) (fun v4 e4 => ?_)
    · skip
      refine UP.ifT rfl cc ?_
      exact kk
    · skip
      refine UP.ifF rfl cc ?_
      refine UP.stp 5 (i1 := 22) (L1 := [some (.ref 0), some (.ref 15), some (.int a2), some (.int (Int32.ofNat i2))]) (st1 := [.int (a2 ||| (1 <<< ((Int32.ofNat i2) &&& 31)))]) (s1 := z1) rfl ?_
      refine nm (G := fun v3 => UP m_X6_idle 22 [some (.ref 0), some (.ref 15), some (.int a2), some (.int (Int32.ofNat i2))] [.int v3] z1 (Qb (F_cidle s))) (a2 ||| (1 <<< ((Int32.ofNat i2) &&& 31))) (fun v3 e3 => ?_)
      refine UP.stp 1 (i1 := 23) (L1 := [some (.ref 0), some (.ref 15), some (.int v3), some (.int (Int32.ofNat i2))]) (st1 := []) (s1 := z1) rfl ?_
      subst e3
      exact kk
    refine UP.stp 2 (i1 := 7) (L1 := [some (.ref 0), some (.ref 15), some (.int v4), some (.int ((Int32.ofNat i2) + 1))]) (st1 := []) (s1 := z1) rfl ?_
    subst e4
    rw [ofn_s]
    try dsimp only [B_cidle_7] at kk
    exact kk
  refine UP.stp 4 (i1 := 11) (L1 := [some (.ref 0), some (.ref 15), some (.int z2), some (.int (Int32.ofNat ((z1 10 0).toNatClampNeg)))]) (st1 := [.int (z1 10 0), .int (Int32.ofNat ((z1 10 0).toNatClampNeg))]) (s1 := z1) rfl ?_
  refine UP.icT rfl (ge_T _) ?_
  refine UP.stp 1 (i1 := 26) (L1 := [some (.ref 0), some (.ref 15), some (.int z2), some (.int (Int32.ofNat ((z1 10 0).toNatClampNeg)))]) (st1 := [.int z2]) (s1 := z1) rfl ?_
  exact UP.ret (r := some (.int z2)) rfl ⟨by subst e2 e1; first | (dsimp only [F_cidle]; done) | (dsimp only; done) | rfl, by subst e2 e1; first | (dsimp only [F_cidle]; done) | (dsimp only; done) | rfl⟩
end
section
def W_metresSwapped : List (Nat × Nat × Option Nat) := [(16, 20, none), (22, 45, none), (46, 52, none), (15, 15, some 8), (59, 63, none), (65, 88, none), (89, 95, none), (58, 58, some 8), (53, 57, none), (96, 108, none), (0, 0, some 12), (0, 0, some 13)]
def F_metresSwapped (s : SG) (a : Int32) (b : Int32) : Int32 × SG := let z1 := F_take s ; let v2 := z1 11 b.toNatClampNeg; let v3 := z1 12 b.toNatClampNeg; let v4 := z1 11 a.toNatClampNeg; let v5 := z1 12 a.toNatClampNeg; let z6 := F_rowOther (uset (uset (uset (uset z1 54 a.toNatClampNeg v2) 55 a.toNatClampNeg v3) 54 b.toNatClampNeg v4) 55 b.toNatClampNeg v5) ; (z6 59 23, z6)
set_option maxRecDepth 20000 in
set_option maxHeartbeats 200000 in
theorem fr_metresSwapped (s : SG) (a : Int32) (b : Int32)  : Fr W_metresSwapped s (F_metresSwapped s a b).2 := by dsimp only [F_metresSwapped]; exact (let z1 : SG := F_take s ; (let v2 : Int32 := z1 11 b.toNatClampNeg; (let v3 : Int32 := z1 12 b.toNatClampNeg; (let v4 : Int32 := z1 11 a.toNatClampNeg; (let v5 : Int32 := z1 12 a.toNatClampNeg; (Fr.tr (s1 := (uset (uset (uset (uset z1 54 a.toNatClampNeg v2) 55 a.toNatClampNeg v3) 54 b.toNatClampNeg v4) 55 b.toNatClampNeg v5)) (Fr.uset (s1 := (uset (uset (uset z1 54 a.toNatClampNeg v2) 55 a.toNatClampNeg v3) 54 b.toNatClampNeg v4)) (a := 55) (j := b.toNatClampNeg) (x := v5) (by rfl) (Fr.uset (s1 := (uset (uset z1 54 a.toNatClampNeg v2) 55 a.toNatClampNeg v3)) (a := 54) (j := b.toNatClampNeg) (x := v4) (by rfl) (Fr.uset (s1 := (uset z1 54 a.toNatClampNeg v2)) (a := 55) (j := a.toNatClampNeg) (x := v3) (by rfl) (Fr.uset (s1 := z1) (a := 54) (j := a.toNatClampNeg) (x := v2) (by rfl) (Fr.tr (s1 := s) (Fr.rf _ _) (Fr.wk (W2 := W_metresSwapped) (fr_take s ) (by rfl))))))) (Fr.wk (W2 := W_metresSwapped) (fr_rowOther (uset (uset (uset (uset z1 54 a.toNatClampNeg v2) 55 a.toNatClampNeg v3) 54 b.toNatClampNeg v4) 55 b.toNatClampNeg v5) ) (by rfl))))))))
set_option maxRecDepth 20000 in
set_option maxHeartbeats 200000 in
theorem ux_metresSwapped (s : SG) (a : Int32) (b : Int32)  : UP m_X6_metresSwapped 0 (m_ent 3 [.ref 0, .int a, .int b]) [] s (Qb (F_metresSwapped s a b)) := by
  refine UP.stp 4 (i1 := 4) (L1 := [some (.ref 0), some (.int a), some (.int b)]) (st1 := [.ref 10, .ref 53]) (s1 := s) rfl ?_
  refine UP.cV (M1 := m_X0_take) (as := [.ref 53, .ref 10]) (rest := []) (T := F_take s ) rfl rfl (ux_take s ) (fun z1 e1 => ?_)
  refine UP.stp 9 (i1 := 14) (L1 := [some (.ref 0), some (.int a), some (.int b)]) (st1 := [.int (z1 11 b.toNatClampNeg), .int a, .ref 54]) (s1 := z1) rfl ?_
  refine nm (G := fun v2 => UP m_X6_metresSwapped 14 [some (.ref 0), some (.int a), some (.int b)] [.int v2, .int a, .ref 54] z1 (Qb (F_metresSwapped s a b))) (z1 11 b.toNatClampNeg) (fun v2 e2 => ?_)
  refine UP.stp 10 (i1 := 24) (L1 := [some (.ref 0), some (.int a), some (.int b)]) (st1 := [.int (z1 12 b.toNatClampNeg), .int a, .ref 55]) (s1 := (uset z1 54 a.toNatClampNeg v2)) rfl ?_
  refine nm (G := fun v3 => UP m_X6_metresSwapped 24 [some (.ref 0), some (.int a), some (.int b)] [.int v3, .int a, .ref 55] (uset z1 54 a.toNatClampNeg v2) (Qb (F_metresSwapped s a b))) (z1 12 b.toNatClampNeg) (fun v3 e3 => ?_)
  refine UP.stp 10 (i1 := 34) (L1 := [some (.ref 0), some (.int a), some (.int b)]) (st1 := [.int (z1 11 a.toNatClampNeg), .int b, .ref 54]) (s1 := (uset (uset z1 54 a.toNatClampNeg v2) 55 a.toNatClampNeg v3)) rfl ?_
  refine nm (G := fun v4 => UP m_X6_metresSwapped 34 [some (.ref 0), some (.int a), some (.int b)] [.int v4, .int b, .ref 54] (uset (uset z1 54 a.toNatClampNeg v2) 55 a.toNatClampNeg v3) (Qb (F_metresSwapped s a b))) (z1 11 a.toNatClampNeg) (fun v4 e4 => ?_)
  refine UP.stp 10 (i1 := 44) (L1 := [some (.ref 0), some (.int a), some (.int b)]) (st1 := [.int (z1 12 a.toNatClampNeg), .int b, .ref 55]) (s1 := (uset (uset (uset z1 54 a.toNatClampNeg v2) 55 a.toNatClampNeg v3) 54 b.toNatClampNeg v4)) rfl ?_
  refine nm (G := fun v5 => UP m_X6_metresSwapped 44 [some (.ref 0), some (.int a), some (.int b)] [.int v5, .int b, .ref 55] (uset (uset (uset z1 54 a.toNatClampNeg v2) 55 a.toNatClampNeg v3) 54 b.toNatClampNeg v4) (Qb (F_metresSwapped s a b))) (z1 12 a.toNatClampNeg) (fun v5 e5 => ?_)
  refine UP.stp 2 (i1 := 46) (L1 := [some (.ref 0), some (.int a), some (.int b)]) (st1 := [.ref 0]) (s1 := (uset (uset (uset (uset z1 54 a.toNatClampNeg v2) 55 a.toNatClampNeg v3) 54 b.toNatClampNeg v4) 55 b.toNatClampNeg v5)) rfl ?_
  refine UP.cR (M1 := m_X6_rowOther) (as := [.ref 0]) (rest := []) (T := F_rowOther (uset (uset (uset (uset z1 54 a.toNatClampNeg v2) 55 a.toNatClampNeg v3) 54 b.toNatClampNeg v4) 55 b.toNatClampNeg v5) ) (a := 58) rfl rfl (ux_rowOther (uset (uset (uset (uset z1 54 a.toNatClampNeg v2) 55 a.toNatClampNeg v3) 54 b.toNatClampNeg v4) 55 b.toNatClampNeg v5) ) (fun z6 e6 => ?_)
  refine UP.stp 3 (i1 := 50) (L1 := [some (.ref 0), some (.int a), some (.int b)]) (st1 := [.int (z6 59 23)]) (s1 := z6) rfl ?_
  exact UP.ret (r := some (.int (z6 59 23))) rfl ⟨by subst e6 e5 e4 e3 e2 e1; first | (dsimp only [F_metresSwapped]; done) | (dsimp only; done) | rfl, by subst e6 e5 e4 e3 e2 e1; first | (dsimp only [F_metresSwapped]; done) | (dsimp only; done) | rfl⟩
end
section
def W_cswap : List (Nat × Nat × Option Nat) := [(16, 20, none), (22, 45, none), (46, 52, none), (15, 15, some 8), (59, 63, none), (65, 88, none), (89, 95, none), (58, 58, some 8), (53, 57, none), (96, 108, none), (0, 0, some 12), (0, 0, some 13)]
def B_cswap_23 (i4 : Nat) (i5 : Nat) (a5 : SG × Int32 × Int32 × Int32) : SG × Int32 × Int32 × Int32 := let z6 := F_metresSwapped a5.1 (Int32.ofNat i4) (Int32.ofNat i5); let w7 := bif m_cmp .le z6.1 a5.2.2.2 then (a5.2.1, a5.2.2.1, a5.2.2.2) else (Int32.ofNat i4, Int32.ofNat i5, z6.1); (z6.2, w7.1, w7.2.1, w7.2.2)
set_option maxRecDepth 20000 in
set_option maxHeartbeats 200000 in
theorem fr_B_cswap_23 (i4 : Nat) (i5 : Nat) (a5 : SG × Int32 × Int32 × Int32)   : Fr W_cswap a5.1 ((B_cswap_23 i4) i5 a5).1 := by dsimp only [B_cswap_23]; exact (Fr.tr (s1 := a5.1) (Fr.rf _ _) (Fr.wk (W2 := W_cswap) (fr_metresSwapped a5.1 (Int32.ofNat i4) (Int32.ofNat i5)) (by rfl)))
def B_cswap_14  (i4 : Nat) (a4 : SG × Int32 × Int32 × Int32) : SG × Int32 × Int32 × Int32 := let z5 := itr (B_cswap_23 i4) (i4 + 1) ((a4.1 10 0).toNatClampNeg - (i4 + 1)) (a4.1, a4.2.1, a4.2.2.1, a4.2.2.2); (z5.1, z5.2.1, z5.2.2.1, z5.2.2.2)
set_option maxRecDepth 20000 in
set_option maxHeartbeats 200000 in
theorem fr_B_cswap_14  (i4 : Nat) (a4 : SG × Int32 × Int32 × Int32)   : Fr W_cswap a4.1 ((B_cswap_14) i4 a4).1 := by dsimp only [B_cswap_14]; exact (Fr.itr (W := W_cswap) (m := (fun x : SG × Int32 × Int32 × Int32 => x.1)) (f := (B_cswap_23 i4)) (fun ii aa => Fr.wk (W2 := W_cswap) (fr_B_cswap_23 i4 ii aa ) (by rfl)) ((a4.1 10 0).toNatClampNeg - (i4 + 1)) (i4 + 1) (a4.1, a4.2.1, a4.2.2.1, a4.2.2.2) (Fr.rf _ _))
def F_cswap (s : SG) (what : Int32) : Int32 × SG := bif m_cmp .ne (F_isBelow s what 3) 0 then (let z4 := itr (B_cswap_14) 0 ((s 10 0).toNatClampNeg) (s, (-1), (-1), (-1)); bif m_cmp .ne what 0 then (let v10 := bif m_cmp .ne what 1 then z4.2.2.2 else z4.2.2.1; (v10, z4.1)) else ((z4.2.1, z4.1))) else (((-2), s))
set_option maxRecDepth 20000 in
set_option maxHeartbeats 200000 in
theorem fr_cswap (s : SG) (what : Int32)  : Fr W_cswap s (F_cswap s what).2 := by dsimp only [F_cswap]; exact (Fr.bifp (b := m_cmp .ne (F_isBelow s what 3) 0) (x := let z4 := itr (B_cswap_14) 0 ((s 10 0).toNatClampNeg) (s, (-1), (-1), (-1)); bif m_cmp .ne what 0 then (let v10 := bif m_cmp .ne what 1 then z4.2.2.2 else z4.2.2.1; (v10, z4.1)) else ((z4.2.1, z4.1))) (y := ((-2), s)) (fun x : Int32 × SG => x.2) (by (try dsimp only); exact (let z4 : SG × Int32 × Int32 × Int32 := itr (B_cswap_14) 0 ((s 10 0).toNatClampNeg) (s, (-1), (-1), (-1)); (Fr.bifp (b := m_cmp .ne what 0) (x := let v10 := bif m_cmp .ne what 1 then z4.2.2.2 else z4.2.2.1; (v10, z4.1)) (y := (z4.2.1, z4.1)) (fun x : Int32 × SG => x.2) (by (try dsimp only); exact (Fr.itr (W := W_cswap) (m := (fun x : SG × Int32 × Int32 × Int32 => x.1)) (f := (B_cswap_14)) (fun ii aa => Fr.wk (W2 := W_cswap) (fr_B_cswap_14  ii aa ) (by rfl)) ((s 10 0).toNatClampNeg) 0 (s, (-1), (-1), (-1)) (Fr.rf _ _))) (by (try dsimp only); exact (Fr.itr (W := W_cswap) (m := (fun x : SG × Int32 × Int32 × Int32 => x.1)) (f := (B_cswap_14)) (fun ii aa => Fr.wk (W2 := W_cswap) (fr_B_cswap_14  ii aa ) (by rfl)) ((s 10 0).toNatClampNeg) 0 (s, (-1), (-1), (-1)) (Fr.rf _ _)))))) (by (try dsimp only); exact (Fr.rf _ _)))
set_option maxRecDepth 20000 in
set_option maxHeartbeats 200000 in
theorem ux_cswap (s : SG) (what : Int32)  : UP m_X6_swap 0 (m_ent 8 [.ref 0, .int what]) [] s (Qb (F_cswap s what)) := by
  refine UP.stp 2 (i1 := 2) (L1 := [some (.ref 0), some (.int what), none, none, none, none, none, none]) (st1 := [.int 3, .int what]) (s1 := s) rfl ?_
  refine UP.cI (M1 := m_X6_isBelow) (as := [.int what, .int 3]) (rest := []) (T := F_isBelow s what 3) rfl rfl (ux_isBelow s what 3) ?_
  refine UP.spl (m_cmp .ne (F_isBelow s what 3) 0) (let z4 := itr (B_cswap_14) 0 ((s 10 0).toNatClampNeg) (s, (-1), (-1), (-1)); bif m_cmp .ne what 0 then (let v10 := bif m_cmp .ne what 1 then z4.2.2.2 else z4.2.2.1; (v10, z4.1)) else ((z4.2.1, z4.1))) (((-2), s)) (by first | (dsimp only [F_cswap]; done) | (dsimp only; done) | rfl) (fun cc => ?_) (fun cc => ?_)
  · skip
    refine UP.ifT rfl cc ?_
    refine UP.stp 8 (i1 := 14) (L1 := [some (.ref 0), some (.int what), some (.int (-1)), some (.int (-1)), some (.int (-1)), some (.int 0), none, none]) (st1 := []) (s1 := s) rfl ?_
    refine lp (fun (i4 : Nat) (a4 : SG × Int32 × Int32 × Int32) => ∀ (u4_6 : Option Value) (u4_7 : Option Value), UP m_X6_swap 14 [some (.ref 0), some (.int what), some (.int a4.2.1), some (.int a4.2.2.1), some (.int a4.2.2.2), some (.int (Int32.ofNat i4)), u4_6, u4_7] [] a4.1 (Qb (let z4 := itr (B_cswap_14) 0 ((s 10 0).toNatClampNeg) (s, (-1), (-1), (-1)); bif m_cmp .ne what 0 then (let v10 := bif m_cmp .ne what 1 then z4.2.2.2 else z4.2.2.1; (v10, z4.1)) else ((z4.2.1, z4.1))))) (fun (_ : Nat) (a4 : SG × Int32 × Int32 × Int32) => Fr W_cswap s a4.1) (B_cswap_14) ((s 10 0).toNatClampNeg) (fun i4 a4 hi4 g4 => g4.tr (fr_B_cswap_14  i4 a4 )) (fun i4 a4 hi4 g4 kk => ?_) ((s 10 0).toNatClampNeg) (0) (s, (-1), (-1), (-1)) (by  omega) (Fr.rf _ _) (fun z4 e4 g4 => ?_) none none
    · skip
      intro u4_6 u4_7
      have hbi4 := cl_lt (s 10 0)
      refine UP.stp 4 (i1 := 18) (L1 := [some (.ref 0), some (.int what), some (.int a4.2.1), some (.int a4.2.2.1), some (.int a4.2.2.2), some (.int (Int32.ofNat i4)), u4_6, u4_7]) (st1 := [.int (a4.1 10 0), .int (Int32.ofNat i4)]) (s1 := a4.1) rfl ?_
      refine UP.icF rfl (by rw [(g4 10 0 rfl)]; exact ge_F hi4) ?_
      refine UP.stp 4 (i1 := 23) (L1 := [some (.ref 0), some (.int what), some (.int a4.2.1), some (.int a4.2.2.1), some (.int a4.2.2.2), some (.int (Int32.ofNat i4)), some (.int ((Int32.ofNat i4) + 1)), u4_7]) (st1 := []) (s1 := a4.1) rfl ?_
      rw [show (Int32.ofNat i4) + 1 = Int32.ofNat (i4 + 1) from (ofn_add rfl rfl)]
      refine lp (fun (i5 : Nat) (a5 : SG × Int32 × Int32 × Int32) => ∀ (u5_7 : Option Value), UP m_X6_swap 23 [some (.ref 0), some (.int what), some (.int a5.2.1), some (.int a5.2.2.1), some (.int a5.2.2.2), some (.int (Int32.ofNat i4)), some (.int (Int32.ofNat i5)), u5_7] [] a5.1 (Qb (let z4 := itr (B_cswap_14) 0 ((s 10 0).toNatClampNeg) (s, (-1), (-1), (-1)); bif m_cmp .ne what 0 then (let v10 := bif m_cmp .ne what 1 then z4.2.2.2 else z4.2.2.1; (v10, z4.1)) else ((z4.2.1, z4.1))))) (fun (_ : Nat) (a5 : SG × Int32 × Int32 × Int32) => Fr W_cswap a4.1 a5.1) (B_cswap_23 i4) ((a4.1 10 0).toNatClampNeg) (fun i5 a5 hi5 g5 => g5.tr (fr_B_cswap_23 i4 i5 a5 )) (fun i5 a5 hi5 g5 kk => ?_) ((a4.1 10 0).toNatClampNeg - (i4 + 1)) (i4 + 1) (a4.1, a4.2.1, a4.2.2.1, a4.2.2.2) (by rw [g4 10 0 rfl]; omega) (Fr.rf _ _) (fun z5 e5 g5 => ?_) (u4_7)
      · skip
        intro u5_7
        have hbi5 := cl_lt (a4.1 10 0)
        refine UP.stp 4 (i1 := 27) (L1 := [some (.ref 0), some (.int what), some (.int a5.2.1), some (.int a5.2.2.1), some (.int a5.2.2.2), some (.int (Int32.ofNat i4)), some (.int (Int32.ofNat i5)), u5_7]) (st1 := [.int (a5.1 10 0), .int (Int32.ofNat i5)]) (s1 := a5.1) rfl ?_
        refine UP.icF rfl (by rw [(g5 10 0 rfl)]; exact ge_F hi5) ?_
        refine UP.stp 3 (i1 := 31) (L1 := [some (.ref 0), some (.int what), some (.int a5.2.1), some (.int a5.2.2.1), some (.int a5.2.2.2), some (.int (Int32.ofNat i4)), some (.int (Int32.ofNat i5)), u5_7]) (st1 := [.int (Int32.ofNat i5), .int (Int32.ofNat i4), .ref 0]) (s1 := a5.1) rfl ?_
        refine UP.cB (M1 := m_X6_metresSwapped) (as := [.ref 0, .int (Int32.ofNat i4), .int (Int32.ofNat i5)]) (rest := []) (T := F_metresSwapped a5.1 (Int32.ofNat i4) (Int32.ofNat i5)) rfl rfl (ux_metresSwapped a5.1 (Int32.ofNat i4) (Int32.ofNat i5)) (fun z6 e6 => ?_)
        refine UP.stp 3 (i1 := 35) (L1 := [some (.ref 0), some (.int what), some (.int a5.2.1), some (.int a5.2.2.1), some (.int a5.2.2.2), some (.int (Int32.ofNat i4)), some (.int (Int32.ofNat i5)), some (.int z6.1)]) (st1 := [.int a5.2.2.2, .int z6.1]) (s1 := z6.2) rfl ?_
        refine mrg (m_cmp .le z6.1 a5.2.2.2) (a5.2.1, a5.2.2.1, a5.2.2.2) (Int32.ofNat i4, Int32.ofNat i5, z6.1) (fun w7 : Int32 × Int32 × Int32 => UP m_X6_swap 42 [some (.ref 0), some (.int what), some (.int w7.1), some (.int w7.2.1), some (.int w7.2.2), some (.int (Int32.ofNat i4)), some (.int (Int32.ofNat i5)), some (.int z6.1)] [] z6.2 (Qb (let z4 := itr (B_cswap_14) 0 ((s 10 0).toNatClampNeg) (s, (-1), (-1), (-1)); bif m_cmp .ne what 0 then (let v10 := bif m_cmp .ne what 1 then z4.2.2.2 else z4.2.2.1; (v10, z4.1)) else ((z4.2.1, z4.1))))) (fun cc kk => ?_) (fun cc kk => ?_) (fun w7 e7 => ?_)
        · skip
          refine UP.icT rfl cc ?_
          exact kk
        · skip
          refine UP.icF rfl cc ?_
          refine UP.stp 6 (i1 := 42) (L1 := [some (.ref 0), some (.int what), some (.int (Int32.ofNat i4)), some (.int (Int32.ofNat i5)), some (.int z6.1), some (.int (Int32.ofNat i4)), some (.int (Int32.ofNat i5)), some (.int z6.1)]) (st1 := []) (s1 := z6.2) rfl ?_
          exact kk
        refine UP.stp 2 (i1 := 23) (L1 := [some (.ref 0), some (.int what), some (.int w7.1), some (.int w7.2.1), some (.int w7.2.2), some (.int (Int32.ofNat i4)), some (.int ((Int32.ofNat i5) + 1)), some (.int z6.1)]) (st1 := []) (s1 := z6.2) rfl ?_
        subst e7 e6
        rw [ofn_s]
        try dsimp only [B_cswap_23] at kk
        exact kk _
      intro u5_7
      refine UP.stp 4 (i1 := 27) (L1 := [some (.ref 0), some (.int what), some (.int z5.2.1), some (.int z5.2.2.1), some (.int z5.2.2.2), some (.int (Int32.ofNat i4)), some (.int (Int32.ofNat ((a4.1 10 0).toNatClampNeg))), u5_7]) (st1 := [.int (z5.1 10 0), .int (Int32.ofNat ((a4.1 10 0).toNatClampNeg))]) (s1 := z5.1) rfl ?_
      refine UP.icT rfl (by rw [(g5 10 0 rfl)]; exact ge_T _) ?_
      refine UP.stp 2 (i1 := 14) (L1 := [some (.ref 0), some (.int what), some (.int z5.2.1), some (.int z5.2.2.1), some (.int z5.2.2.2), some (.int ((Int32.ofNat i4) + 1)), some (.int (Int32.ofNat ((a4.1 10 0).toNatClampNeg))), u5_7]) (st1 := []) (s1 := z5.1) rfl ?_
      subst e5
      rw [ofn_s]
      try dsimp only [B_cswap_14] at kk
      exact kk _ _
    intro u4_6 u4_7
    refine UP.stp 4 (i1 := 18) (L1 := [some (.ref 0), some (.int what), some (.int z4.2.1), some (.int z4.2.2.1), some (.int z4.2.2.2), some (.int (Int32.ofNat ((s 10 0).toNatClampNeg))), u4_6, u4_7]) (st1 := [.int (z4.1 10 0), .int (Int32.ofNat ((s 10 0).toNatClampNeg))]) (s1 := z4.1) rfl ?_
    refine UP.icT rfl (by rw [(g4 10 0 rfl)]; exact ge_T _) ?_
    refine UP.stp 1 (i1 := 47) (L1 := [some (.ref 0), some (.int what), some (.int z4.2.1), some (.int z4.2.2.1), some (.int z4.2.2.2), some (.int (Int32.ofNat ((s 10 0).toNatClampNeg))), u4_6, u4_7]) (st1 := [.int what]) (s1 := z4.1) rfl ?_
    refine UP.spl (m_cmp .ne what 0) (let v10 := bif m_cmp .ne what 1 then z4.2.2.2 else z4.2.2.1; (v10, z4.1)) ((z4.2.1, z4.1)) (by subst e4; first | (dsimp only [F_cswap]; done) | (dsimp only; done) | rfl) (fun cc => ?_) (fun cc => ?_)
    · skip
      refine UP.ifT rfl cc ?_
      refine UP.stp 2 (i1 := 52) (L1 := [some (.ref 0), some (.int what), some (.int z4.2.1), some (.int z4.2.2.1), some (.int z4.2.2.2), some (.int (Int32.ofNat ((s 10 0).toNatClampNeg))), u4_6, u4_7]) (st1 := [.int 1, .int what]) (s1 := z4.1) rfl ?_
      refine mrg (m_cmp .ne what 1) z4.2.2.2 z4.2.2.1 (fun v10 : Int32 => UP m_X6_swap 56 [some (.ref 0), some (.int what), some (.int z4.2.1), some (.int z4.2.2.1), some (.int z4.2.2.2), some (.int (Int32.ofNat ((s 10 0).toNatClampNeg))), u4_6, u4_7] [.int v10] z4.1 (Qb (let v10 := bif m_cmp .ne what 1 then z4.2.2.2 else z4.2.2.1; (v10, z4.1)))) (fun cc kk => ?_) (fun cc kk => ?_) (fun v10 e10 => ?_)
      · skip
        refine UP.icT rfl cc ?_
        refine UP.stp 1 (i1 := 56) (L1 := [some (.ref 0), some (.int what), some (.int z4.2.1), some (.int z4.2.2.1), some (.int z4.2.2.2), some (.int (Int32.ofNat ((s 10 0).toNatClampNeg))), u4_6, u4_7]) (st1 := [.int z4.2.2.2]) (s1 := z4.1) rfl ?_
        exact kk
      · skip
        refine UP.icF rfl cc ?_
        refine UP.stp 2 (i1 := 56) (L1 := [some (.ref 0), some (.int what), some (.int z4.2.1), some (.int z4.2.2.1), some (.int z4.2.2.2), some (.int (Int32.ofNat ((s 10 0).toNatClampNeg))), u4_6, u4_7]) (st1 := [.int z4.2.2.1]) (s1 := z4.1) rfl ?_
        exact kk
      exact UP.ret (r := some (.int v10)) rfl ⟨by subst e10 e4; first | (dsimp only [F_cswap]; done) | (dsimp only; done) | rfl, by subst e10 e4; first | (dsimp only [F_cswap]; done) | (dsimp only; done) | rfl⟩
    · skip
      refine UP.ifF rfl cc ?_
      refine UP.stp 1 (i1 := 49) (L1 := [some (.ref 0), some (.int what), some (.int z4.2.1), some (.int z4.2.2.1), some (.int z4.2.2.2), some (.int (Int32.ofNat ((s 10 0).toNatClampNeg))), u4_6, u4_7]) (st1 := [.int z4.2.1]) (s1 := z4.1) rfl ?_
      exact UP.ret (r := some (.int z4.2.1)) rfl ⟨by subst e4; first | (dsimp only [F_cswap]; done) | (dsimp only; done) | rfl, by subst e4; first | (dsimp only [F_cswap]; done) | (dsimp only; done) | rfl⟩
  · skip
    refine UP.ifF rfl cc ?_
    refine UP.stp 1 (i1 := 5) (L1 := [some (.ref 0), some (.int what), none, none, none, none, none, none]) (st1 := [.int (-2)]) (s1 := s) rfl ?_
    exact UP.ret (r := some (.int (-2))) rfl ⟨by first | (dsimp only [F_cswap]; done) | (dsimp only; done) | rfl, by first | (dsimp only [F_cswap]; done) | (dsimp only; done) | rfl⟩
end
section
def W_csteer : List (Nat × Nat × Option Nat) := [(16, 20, none), (22, 45, none), (46, 52, none), (15, 15, some 8), (59, 63, none), (65, 88, none), (89, 95, none), (58, 58, some 8), (53, 57, none), (96, 108, none), (0, 0, some 12), (0, 0, some 13)]
def B_csteer_21 (minute : Int32) (i8 : Nat) (a8 : SG × Int32 × Int32) : SG × Int32 × Int32 := let z9 := F_rowOther (uset a8.1 57 minute.toNatClampNeg (Int32.ofNat i8)) ; let v11 := F_lastStray_b z9; let w12 := bif m_cmp .ge v11 a8.2.2 then (a8.2.1, a8.2.2) else (Int32.ofNat i8, v11); (z9, w12.1, w12.2)
set_option maxRecDepth 20000 in
set_option maxHeartbeats 200000 in
theorem fr_B_csteer_21 (minute : Int32) (i8 : Nat) (a8 : SG × Int32 × Int32)  (hi8 : i8 < 3) : Fr W_csteer a8.1 ((B_csteer_21 minute) i8 a8).1 := by dsimp only [B_csteer_21]; exact (Fr.tr (s1 := (uset a8.1 57 minute.toNatClampNeg (Int32.ofNat i8))) (Fr.uset (s1 := a8.1) (a := 57) (j := minute.toNatClampNeg) (x := Int32.ofNat i8) (by rfl) (Fr.rf _ _)) (Fr.wk (W2 := W_csteer) (fr_rowOther (uset a8.1 57 minute.toNatClampNeg (Int32.ofNat i8)) ) (by rfl)))
def F_csteer (s : SG) (minute : Int32) (what : Int32) : Int32 × SG := bif m_cmp .eq (F_isBelow s minute 24) 0 then (((-2), s)) else (bif m_cmp .ne (F_isBelow s what 2) 0 then (let z7 := F_take s ; let z8 := itr (B_csteer_21 minute) 0 3 (z7, (-1), 20); let v13 := bif m_cmp .ne what 0 then z8.2.2 else z8.2.1; (v13, z8.1)) else (((-2), s)))
set_option maxRecDepth 20000 in
set_option maxHeartbeats 200000 in
theorem fr_csteer (s : SG) (minute : Int32) (what : Int32)  : Fr W_csteer s (F_csteer s minute what).2 := by dsimp only [F_csteer]; exact (Fr.bifp (b := m_cmp .eq (F_isBelow s minute 24) 0) (x := ((-2), s)) (y := bif m_cmp .ne (F_isBelow s what 2) 0 then (let z7 := F_take s ; let z8 := itr (B_csteer_21 minute) 0 3 (z7, (-1), 20); let v13 := bif m_cmp .ne what 0 then z8.2.2 else z8.2.1; (v13, z8.1)) else (((-2), s))) (fun x : Int32 × SG => x.2) (by (try dsimp only); exact (Fr.rf _ _)) (by (try dsimp only); exact (Fr.bifp (b := m_cmp .ne (F_isBelow s what 2) 0) (x := let z7 := F_take s ; let z8 := itr (B_csteer_21 minute) 0 3 (z7, (-1), 20); let v13 := bif m_cmp .ne what 0 then z8.2.2 else z8.2.1; (v13, z8.1)) (y := ((-2), s)) (fun x : Int32 × SG => x.2) (by (try dsimp only); exact (let z7 : SG := F_take s ; (frItrB (W := W_csteer) (m := (fun x : SG × Int32 × Int32 => x.1)) (f := (B_csteer_21 minute)) 3 (fun ii aa hh => Fr.wk (W2 := W_csteer) (fr_B_csteer_21 minute ii aa  hh) (by rfl)) 3 0 (z7, (-1), 20) (by omega) (Fr.tr (s1 := s) (Fr.rf _ _) (Fr.wk (W2 := W_csteer) (fr_take s ) (by rfl)))))) (by (try dsimp only); exact (Fr.rf _ _)))))
set_option maxRecDepth 20000 in
set_option maxHeartbeats 200000 in
theorem ux_csteer (s : SG) (minute : Int32) (what : Int32)  : UP m_X6_steer 0 (m_ent 7 [.ref 0, .int minute, .int what]) [] s (Qb (F_csteer s minute what)) := by
  refine UP.stp 2 (i1 := 2) (L1 := [some (.ref 0), some (.int minute), some (.int what), none, none, none, none]) (st1 := [.int 24, .int minute]) (s1 := s) rfl ?_
  refine UP.cI (M1 := m_X6_isBelow) (as := [.int minute, .int 24]) (rest := []) (T := F_isBelow s minute 24) rfl rfl (ux_isBelow s minute 24) ?_
  refine UP.spl (m_cmp .eq (F_isBelow s minute 24) 0) (((-2), s)) (bif m_cmp .ne (F_isBelow s what 2) 0 then (let z7 := F_take s ; let z8 := itr (B_csteer_21 minute) 0 3 (z7, (-1), 20); let v13 := bif m_cmp .ne what 0 then z8.2.2 else z8.2.1; (v13, z8.1)) else (((-2), s))) (by first | (dsimp only [F_csteer]; done) | (dsimp only; done) | rfl) (fun cc => ?_) (fun cc => ?_)
  · skip
    refine UP.ifT rfl cc ?_
    refine UP.stp 1 (i1 := 9) (L1 := [some (.ref 0), some (.int minute), some (.int what), none, none, none, none]) (st1 := [.int (-2)]) (s1 := s) rfl ?_
    exact UP.ret (r := some (.int (-2))) rfl ⟨by first | (dsimp only [F_csteer]; done) | (dsimp only; done) | rfl, by first | (dsimp only [F_csteer]; done) | (dsimp only; done) | rfl⟩
  · skip
    refine UP.ifF rfl cc ?_
    refine UP.stp 2 (i1 := 6) (L1 := [some (.ref 0), some (.int minute), some (.int what), none, none, none, none]) (st1 := [.int 2, .int what]) (s1 := s) rfl ?_
    refine UP.cI (M1 := m_X6_isBelow) (as := [.int what, .int 2]) (rest := []) (T := F_isBelow s what 2) rfl rfl (ux_isBelow s what 2) ?_
    refine UP.spl (m_cmp .ne (F_isBelow s what 2) 0) (let z7 := F_take s ; let z8 := itr (B_csteer_21 minute) 0 3 (z7, (-1), 20); let v13 := bif m_cmp .ne what 0 then z8.2.2 else z8.2.1; (v13, z8.1)) (((-2), s)) (by first | (dsimp only [F_csteer]; done) | (dsimp only; done) | rfl) (fun cc => ?_) (fun cc => ?_)
    · skip
      refine UP.ifT rfl cc ?_
      refine UP.stp 4 (i1 := 14) (L1 := [some (.ref 0), some (.int minute), some (.int what), none, none, none, none]) (st1 := [.ref 10, .ref 53]) (s1 := s) rfl ?_
      refine UP.cV (M1 := m_X0_take) (as := [.ref 53, .ref 10]) (rest := []) (T := F_take s ) rfl rfl (ux_take s ) (fun z7 e7 => ?_)
      refine UP.stp 6 (i1 := 21) (L1 := [some (.ref 0), some (.int minute), some (.int what), some (.int (-1)), some (.int 20), some (.int 0), none]) (st1 := []) (s1 := z7) rfl ?_
      refine lp (fun (i8 : Nat) (a8 : SG × Int32 × Int32) => ∀ (u8_6 : Option Value), UP m_X6_steer 21 [some (.ref 0), some (.int minute), some (.int what), some (.int a8.2.1), some (.int a8.2.2), some (.int (Int32.ofNat i8)), u8_6] [] a8.1 (Qb (let z7 := F_take s ; let z8 := itr (B_csteer_21 minute) 0 3 (z7, (-1), 20); let v13 := bif m_cmp .ne what 0 then z8.2.2 else z8.2.1; (v13, z8.1)))) (fun (_ : Nat) (a8 : SG × Int32 × Int32) => Fr W_csteer z7 a8.1) (B_csteer_21 minute) (3) (fun i8 a8 hi8 g8 => g8.tr (fr_B_csteer_21 minute i8 a8 hi8)) (fun i8 a8 hi8 g8 kk => ?_) 3 (0) (z7, (-1), 20) (by  omega) (Fr.rf _ _) (fun z8 e8 g8 => ?_) none
      · skip
        intro u8_6
        refine UP.stp 2 (i1 := 23) (L1 := [some (.ref 0), some (.int minute), some (.int what), some (.int a8.2.1), some (.int a8.2.2), some (.int (Int32.ofNat i8)), u8_6]) (st1 := [.int 3, .int (Int32.ofNat i8)]) (s1 := a8.1) rfl ?_
        refine UP.icF rfl (ge_F (show i8 < (3 : Int32).toNatClampNeg from hi8)) ?_
        refine UP.stp 7 (i1 := 31) (L1 := [some (.ref 0), some (.int minute), some (.int what), some (.int a8.2.1), some (.int a8.2.2), some (.int (Int32.ofNat i8)), u8_6]) (st1 := [.ref 0]) (s1 := (uset a8.1 57 minute.toNatClampNeg (Int32.ofNat i8))) rfl ?_
        refine UP.cR (M1 := m_X6_rowOther) (as := [.ref 0]) (rest := []) (T := F_rowOther (uset a8.1 57 minute.toNatClampNeg (Int32.ofNat i8)) ) (a := 58) rfl rfl (ux_rowOther (uset a8.1 57 minute.toNatClampNeg (Int32.ofNat i8)) ) (fun z9 e9 => ?_)
        refine UP.cI (M1 := m_X5_lastStray) (as := [.ref 58]) (rest := []) (T := F_lastStray_b z9 ) rfl rfl (ux_lastStray_b z9) ?_
        refine nm (G := fun v11 => UP m_X6_steer 33 [some (.ref 0), some (.int minute), some (.int what), some (.int a8.2.1), some (.int a8.2.2), some (.int (Int32.ofNat i8)), u8_6] [.int v11] z9 (Qb (let z7 := F_take s ; let z8 := itr (B_csteer_21 minute) 0 3 (z7, (-1), 20); let v13 := bif m_cmp .ne what 0 then z8.2.2 else z8.2.1; (v13, z8.1)))) (F_lastStray_b z9) (fun v11 e11 => ?_)
        refine UP.stp 3 (i1 := 36) (L1 := [some (.ref 0), some (.int minute), some (.int what), some (.int a8.2.1), some (.int a8.2.2), some (.int (Int32.ofNat i8)), some (.int v11)]) (st1 := [.int a8.2.2, .int v11]) (s1 := z9) rfl ?_
        refine mrg (m_cmp .ge v11 a8.2.2) (a8.2.1, a8.2.2) (Int32.ofNat i8, v11) (fun w12 : Int32 × Int32 => UP m_X6_steer 41 [some (.ref 0), some (.int minute), some (.int what), some (.int w12.1), some (.int w12.2), some (.int (Int32.ofNat i8)), some (.int v11)] [] z9 (Qb (let z7 := F_take s ; let z8 := itr (B_csteer_21 minute) 0 3 (z7, (-1), 20); let v13 := bif m_cmp .ne what 0 then z8.2.2 else z8.2.1; (v13, z8.1)))) (fun cc kk => ?_) (fun cc kk => ?_) (fun w12 e12 => ?_)
        · skip
          refine UP.icT rfl cc ?_
          exact kk
        · skip
          refine UP.icF rfl cc ?_
          refine UP.stp 4 (i1 := 41) (L1 := [some (.ref 0), some (.int minute), some (.int what), some (.int (Int32.ofNat i8)), some (.int v11), some (.int (Int32.ofNat i8)), some (.int v11)]) (st1 := []) (s1 := z9) rfl ?_
          exact kk
        refine UP.stp 2 (i1 := 21) (L1 := [some (.ref 0), some (.int minute), some (.int what), some (.int w12.1), some (.int w12.2), some (.int ((Int32.ofNat i8) + 1)), some (.int v11)]) (st1 := []) (s1 := z9) rfl ?_
        subst e12 e11 e9
        rw [ofn_s]
        try dsimp only [B_csteer_21] at kk
        exact kk _
      intro u8_6
      refine UP.stp 2 (i1 := 23) (L1 := [some (.ref 0), some (.int minute), some (.int what), some (.int z8.2.1), some (.int z8.2.2), some (.int (Int32.ofNat 3)), u8_6]) (st1 := [.int 3, .int (Int32.ofNat 3)]) (s1 := z8.1) rfl ?_
      refine UP.icT rfl (ge_T (3 : Int32)) ?_
      refine UP.stp 1 (i1 := 44) (L1 := [some (.ref 0), some (.int minute), some (.int what), some (.int z8.2.1), some (.int z8.2.2), some (.int (Int32.ofNat 3)), u8_6]) (st1 := [.int what]) (s1 := z8.1) rfl ?_
      refine mrg (m_cmp .ne what 0) z8.2.2 z8.2.1 (fun v13 : Int32 => UP m_X6_steer 48 [some (.ref 0), some (.int minute), some (.int what), some (.int z8.2.1), some (.int z8.2.2), some (.int (Int32.ofNat 3)), u8_6] [.int v13] z8.1 (Qb (let z7 := F_take s ; let z8 := itr (B_csteer_21 minute) 0 3 (z7, (-1), 20); let v13 := bif m_cmp .ne what 0 then z8.2.2 else z8.2.1; (v13, z8.1)))) (fun cc kk => ?_) (fun cc kk => ?_) (fun v13 e13 => ?_)
      · skip
        refine UP.ifT rfl cc ?_
        refine UP.stp 1 (i1 := 48) (L1 := [some (.ref 0), some (.int minute), some (.int what), some (.int z8.2.1), some (.int z8.2.2), some (.int (Int32.ofNat 3)), u8_6]) (st1 := [.int z8.2.2]) (s1 := z8.1) rfl ?_
        exact kk
      · skip
        refine UP.ifF rfl cc ?_
        refine UP.stp 2 (i1 := 48) (L1 := [some (.ref 0), some (.int minute), some (.int what), some (.int z8.2.1), some (.int z8.2.2), some (.int (Int32.ofNat 3)), u8_6]) (st1 := [.int z8.2.1]) (s1 := z8.1) rfl ?_
        exact kk
      exact UP.ret (r := some (.int v13)) rfl ⟨by subst e13 e8 e7; first | (dsimp only [F_csteer]; done) | (dsimp only; done) | rfl, by subst e13 e8 e7; first | (dsimp only [F_csteer]; done) | (dsimp only; done) | rfl⟩
    · skip
      refine UP.ifF rfl cc ?_
      refine UP.stp 1 (i1 := 9) (L1 := [some (.ref 0), some (.int minute), some (.int what), none, none, none, none]) (st1 := [.int (-2)]) (s1 := s) rfl ?_
      exact UP.ret (r := some (.int (-2))) rfl ⟨by first | (dsimp only [F_csteer]; done) | (dsimp only; done) | rfl, by first | (dsimp only [F_csteer]; done) | (dsimp only; done) | rfl⟩
end
section
def W_cstroke : List (Nat × Nat × Option Nat) := [(16, 20, none), (22, 45, none), (46, 52, none), (15, 15, some 8), (59, 63, none), (65, 88, none), (89, 95, none), (58, 58, some 8), (53, 57, none), (96, 108, none), (0, 0, some 12), (0, 0, some 13)]
def B_cstroke_21 (minute : Int32) (i8 : Nat) (a8 : SG × Int32 × Int32) : SG × Int32 × Int32 := let z9 := F_rowOther (uset a8.1 56 minute.toNatClampNeg (Int32.ofNat i8)) ; let v10 := z9 59 23; let w11 := bif m_cmp .le v10 a8.2.2 then (a8.2.1, a8.2.2) else (Int32.ofNat i8, v10); (z9, w11.1, w11.2)
set_option maxRecDepth 20000 in
set_option maxHeartbeats 200000 in
theorem fr_B_cstroke_21 (minute : Int32) (i8 : Nat) (a8 : SG × Int32 × Int32)  (hi8 : i8 < 4) : Fr W_cstroke a8.1 ((B_cstroke_21 minute) i8 a8).1 := by dsimp only [B_cstroke_21]; exact (Fr.tr (s1 := (uset a8.1 56 minute.toNatClampNeg (Int32.ofNat i8))) (Fr.uset (s1 := a8.1) (a := 56) (j := minute.toNatClampNeg) (x := Int32.ofNat i8) (by rfl) (Fr.rf _ _)) (Fr.wk (W2 := W_cstroke) (fr_rowOther (uset a8.1 56 minute.toNatClampNeg (Int32.ofNat i8)) ) (by rfl)))
def F_cstroke (s : SG) (minute : Int32) (what : Int32) : Int32 × SG := bif m_cmp .eq (F_isBelow s minute 24) 0 then (((-2), s)) else (bif m_cmp .ne (F_isBelow s what 2) 0 then (let z7 := F_take s ; let z8 := itr (B_cstroke_21 minute) 0 4 (z7, (-1), (-1)); let v12 := bif m_cmp .ne what 0 then z8.2.2 else z8.2.1; (v12, z8.1)) else (((-2), s)))
set_option maxRecDepth 20000 in
set_option maxHeartbeats 200000 in
theorem fr_cstroke (s : SG) (minute : Int32) (what : Int32)  : Fr W_cstroke s (F_cstroke s minute what).2 := by dsimp only [F_cstroke]; exact (Fr.bifp (b := m_cmp .eq (F_isBelow s minute 24) 0) (x := ((-2), s)) (y := bif m_cmp .ne (F_isBelow s what 2) 0 then (let z7 := F_take s ; let z8 := itr (B_cstroke_21 minute) 0 4 (z7, (-1), (-1)); let v12 := bif m_cmp .ne what 0 then z8.2.2 else z8.2.1; (v12, z8.1)) else (((-2), s))) (fun x : Int32 × SG => x.2) (by (try dsimp only); exact (Fr.rf _ _)) (by (try dsimp only); exact (Fr.bifp (b := m_cmp .ne (F_isBelow s what 2) 0) (x := let z7 := F_take s ; let z8 := itr (B_cstroke_21 minute) 0 4 (z7, (-1), (-1)); let v12 := bif m_cmp .ne what 0 then z8.2.2 else z8.2.1; (v12, z8.1)) (y := ((-2), s)) (fun x : Int32 × SG => x.2) (by (try dsimp only); exact (let z7 : SG := F_take s ; (frItrB (W := W_cstroke) (m := (fun x : SG × Int32 × Int32 => x.1)) (f := (B_cstroke_21 minute)) 4 (fun ii aa hh => Fr.wk (W2 := W_cstroke) (fr_B_cstroke_21 minute ii aa  hh) (by rfl)) 4 0 (z7, (-1), (-1)) (by omega) (Fr.tr (s1 := s) (Fr.rf _ _) (Fr.wk (W2 := W_cstroke) (fr_take s ) (by rfl)))))) (by (try dsimp only); exact (Fr.rf _ _)))))
set_option maxRecDepth 20000 in
set_option maxHeartbeats 200000 in
theorem ux_cstroke (s : SG) (minute : Int32) (what : Int32)  : UP m_X6_stroke 0 (m_ent 7 [.ref 0, .int minute, .int what]) [] s (Qb (F_cstroke s minute what)) := by
  refine UP.stp 2 (i1 := 2) (L1 := [some (.ref 0), some (.int minute), some (.int what), none, none, none, none]) (st1 := [.int 24, .int minute]) (s1 := s) rfl ?_
  refine UP.cI (M1 := m_X6_isBelow) (as := [.int minute, .int 24]) (rest := []) (T := F_isBelow s minute 24) rfl rfl (ux_isBelow s minute 24) ?_
  refine UP.spl (m_cmp .eq (F_isBelow s minute 24) 0) (((-2), s)) (bif m_cmp .ne (F_isBelow s what 2) 0 then (let z7 := F_take s ; let z8 := itr (B_cstroke_21 minute) 0 4 (z7, (-1), (-1)); let v12 := bif m_cmp .ne what 0 then z8.2.2 else z8.2.1; (v12, z8.1)) else (((-2), s))) (by first | (dsimp only [F_cstroke]; done) | (dsimp only; done) | rfl) (fun cc => ?_) (fun cc => ?_)
  · skip
    refine UP.ifT rfl cc ?_
    refine UP.stp 1 (i1 := 9) (L1 := [some (.ref 0), some (.int minute), some (.int what), none, none, none, none]) (st1 := [.int (-2)]) (s1 := s) rfl ?_
    exact UP.ret (r := some (.int (-2))) rfl ⟨by first | (dsimp only [F_cstroke]; done) | (dsimp only; done) | rfl, by first | (dsimp only [F_cstroke]; done) | (dsimp only; done) | rfl⟩
  · skip
    refine UP.ifF rfl cc ?_
    refine UP.stp 2 (i1 := 6) (L1 := [some (.ref 0), some (.int minute), some (.int what), none, none, none, none]) (st1 := [.int 2, .int what]) (s1 := s) rfl ?_
    refine UP.cI (M1 := m_X6_isBelow) (as := [.int what, .int 2]) (rest := []) (T := F_isBelow s what 2) rfl rfl (ux_isBelow s what 2) ?_
    refine UP.spl (m_cmp .ne (F_isBelow s what 2) 0) (let z7 := F_take s ; let z8 := itr (B_cstroke_21 minute) 0 4 (z7, (-1), (-1)); let v12 := bif m_cmp .ne what 0 then z8.2.2 else z8.2.1; (v12, z8.1)) (((-2), s)) (by first | (dsimp only [F_cstroke]; done) | (dsimp only; done) | rfl) (fun cc => ?_) (fun cc => ?_)
    · skip
      refine UP.ifT rfl cc ?_
      refine UP.stp 4 (i1 := 14) (L1 := [some (.ref 0), some (.int minute), some (.int what), none, none, none, none]) (st1 := [.ref 10, .ref 53]) (s1 := s) rfl ?_
      refine UP.cV (M1 := m_X0_take) (as := [.ref 53, .ref 10]) (rest := []) (T := F_take s ) rfl rfl (ux_take s ) (fun z7 e7 => ?_)
      refine UP.stp 6 (i1 := 21) (L1 := [some (.ref 0), some (.int minute), some (.int what), some (.int (-1)), some (.int (-1)), some (.int 0), none]) (st1 := []) (s1 := z7) rfl ?_
      refine lp (fun (i8 : Nat) (a8 : SG × Int32 × Int32) => ∀ (u8_6 : Option Value), UP m_X6_stroke 21 [some (.ref 0), some (.int minute), some (.int what), some (.int a8.2.1), some (.int a8.2.2), some (.int (Int32.ofNat i8)), u8_6] [] a8.1 (Qb (let z7 := F_take s ; let z8 := itr (B_cstroke_21 minute) 0 4 (z7, (-1), (-1)); let v12 := bif m_cmp .ne what 0 then z8.2.2 else z8.2.1; (v12, z8.1)))) (fun (_ : Nat) (a8 : SG × Int32 × Int32) => Fr W_cstroke z7 a8.1) (B_cstroke_21 minute) (4) (fun i8 a8 hi8 g8 => g8.tr (fr_B_cstroke_21 minute i8 a8 hi8)) (fun i8 a8 hi8 g8 kk => ?_) 4 (0) (z7, (-1), (-1)) (by  omega) (Fr.rf _ _) (fun z8 e8 g8 => ?_) none
      · skip
        intro u8_6
        refine UP.stp 2 (i1 := 23) (L1 := [some (.ref 0), some (.int minute), some (.int what), some (.int a8.2.1), some (.int a8.2.2), some (.int (Int32.ofNat i8)), u8_6]) (st1 := [.int 3, .int (Int32.ofNat i8)]) (s1 := a8.1) rfl ?_
        refine UP.icF rfl (gt_F (show i8 ≤ (3 : Int32).toNatClampNeg from Nat.le_of_lt_succ hi8) (by decide)) ?_
        refine UP.stp 7 (i1 := 31) (L1 := [some (.ref 0), some (.int minute), some (.int what), some (.int a8.2.1), some (.int a8.2.2), some (.int (Int32.ofNat i8)), u8_6]) (st1 := [.ref 0]) (s1 := (uset a8.1 56 minute.toNatClampNeg (Int32.ofNat i8))) rfl ?_
        refine UP.cR (M1 := m_X6_rowOther) (as := [.ref 0]) (rest := []) (T := F_rowOther (uset a8.1 56 minute.toNatClampNeg (Int32.ofNat i8)) ) (a := 58) rfl rfl (ux_rowOther (uset a8.1 56 minute.toNatClampNeg (Int32.ofNat i8)) ) (fun z9 e9 => ?_)
        refine UP.stp 3 (i1 := 35) (L1 := [some (.ref 0), some (.int minute), some (.int what), some (.int a8.2.1), some (.int a8.2.2), some (.int (Int32.ofNat i8)), u8_6]) (st1 := [.int (z9 59 23)]) (s1 := z9) rfl ?_
        refine nm (G := fun v10 => UP m_X6_stroke 35 [some (.ref 0), some (.int minute), some (.int what), some (.int a8.2.1), some (.int a8.2.2), some (.int (Int32.ofNat i8)), u8_6] [.int v10] z9 (Qb (let z7 := F_take s ; let z8 := itr (B_cstroke_21 minute) 0 4 (z7, (-1), (-1)); let v12 := bif m_cmp .ne what 0 then z8.2.2 else z8.2.1; (v12, z8.1)))) (z9 59 23) (fun v10 e10 => ?_)
        refine UP.stp 3 (i1 := 38) (L1 := [some (.ref 0), some (.int minute), some (.int what), some (.int a8.2.1), some (.int a8.2.2), some (.int (Int32.ofNat i8)), some (.int v10)]) (st1 := [.int a8.2.2, .int v10]) (s1 := z9) rfl ?_
        refine mrg (m_cmp .le v10 a8.2.2) (a8.2.1, a8.2.2) (Int32.ofNat i8, v10) (fun w11 : Int32 × Int32 => UP m_X6_stroke 43 [some (.ref 0), some (.int minute), some (.int what), some (.int w11.1), some (.int w11.2), some (.int (Int32.ofNat i8)), some (.int v10)] [] z9 (Qb (let z7 := F_take s ; let z8 := itr (B_cstroke_21 minute) 0 4 (z7, (-1), (-1)); let v12 := bif m_cmp .ne what 0 then z8.2.2 else z8.2.1; (v12, z8.1)))) (fun cc kk => ?_) (fun cc kk => ?_) (fun w11 e11 => ?_)
        · skip
          refine UP.icT rfl cc ?_
          exact kk
        · skip
          refine UP.icF rfl cc ?_
          refine UP.stp 4 (i1 := 43) (L1 := [some (.ref 0), some (.int minute), some (.int what), some (.int (Int32.ofNat i8)), some (.int v10), some (.int (Int32.ofNat i8)), some (.int v10)]) (st1 := []) (s1 := z9) rfl ?_
          exact kk
        refine UP.stp 2 (i1 := 21) (L1 := [some (.ref 0), some (.int minute), some (.int what), some (.int w11.1), some (.int w11.2), some (.int ((Int32.ofNat i8) + 1)), some (.int v10)]) (st1 := []) (s1 := z9) rfl ?_
        subst e11 e10 e9
        rw [ofn_s]
        try dsimp only [B_cstroke_21] at kk
        exact kk _
      intro u8_6
      refine UP.stp 2 (i1 := 23) (L1 := [some (.ref 0), some (.int minute), some (.int what), some (.int z8.2.1), some (.int z8.2.2), some (.int (Int32.ofNat 4)), u8_6]) (st1 := [.int 3, .int (Int32.ofNat 4)]) (s1 := z8.1) rfl ?_
      refine UP.icT rfl (gt_T (v := 3) (by decide) (by decide)) ?_
      refine UP.stp 1 (i1 := 46) (L1 := [some (.ref 0), some (.int minute), some (.int what), some (.int z8.2.1), some (.int z8.2.2), some (.int (Int32.ofNat 4)), u8_6]) (st1 := [.int what]) (s1 := z8.1) rfl ?_
      refine mrg (m_cmp .ne what 0) z8.2.2 z8.2.1 (fun v12 : Int32 => UP m_X6_stroke 50 [some (.ref 0), some (.int minute), some (.int what), some (.int z8.2.1), some (.int z8.2.2), some (.int (Int32.ofNat 4)), u8_6] [.int v12] z8.1 (Qb (let z7 := F_take s ; let z8 := itr (B_cstroke_21 minute) 0 4 (z7, (-1), (-1)); let v12 := bif m_cmp .ne what 0 then z8.2.2 else z8.2.1; (v12, z8.1)))) (fun cc kk => ?_) (fun cc kk => ?_) (fun v12 e12 => ?_)
      · skip
        refine UP.ifT rfl cc ?_
        refine UP.stp 1 (i1 := 50) (L1 := [some (.ref 0), some (.int minute), some (.int what), some (.int z8.2.1), some (.int z8.2.2), some (.int (Int32.ofNat 4)), u8_6]) (st1 := [.int z8.2.2]) (s1 := z8.1) rfl ?_
        exact kk
      · skip
        refine UP.ifF rfl cc ?_
        refine UP.stp 2 (i1 := 50) (L1 := [some (.ref 0), some (.int minute), some (.int what), some (.int z8.2.1), some (.int z8.2.2), some (.int (Int32.ofNat 4)), u8_6]) (st1 := [.int z8.2.1]) (s1 := z8.1) rfl ?_
        exact kk
      exact UP.ret (r := some (.int v12)) rfl ⟨by subst e12 e8 e7; first | (dsimp only [F_cstroke]; done) | (dsimp only; done) | rfl, by subst e12 e8 e7; first | (dsimp only [F_cstroke]; done) | (dsimp only; done) | rfl⟩
    · skip
      refine UP.ifF rfl cc ?_
      refine UP.stp 1 (i1 := 9) (L1 := [some (.ref 0), some (.int minute), some (.int what), none, none, none, none]) (st1 := [.int (-2)]) (s1 := s) rfl ?_
      exact UP.ret (r := some (.int (-2))) rfl ⟨by first | (dsimp only [F_cstroke]; done) | (dsimp only; done) | rfl, by first | (dsimp only [F_cstroke]; done) | (dsimp only; done) | rfl⟩
end
section
def W_cyears : List (Nat × Nat × Option Nat) := [(16, 20, none), (22, 45, none), (46, 52, none), (15, 15, some 8), (59, 63, none), (65, 88, none), (89, 95, none), (58, 58, some 8), (53, 57, none), (96, 108, none), (0, 0, some 12), (0, 0, some 13)]
def B_cyears_19 (n : Int32) (i8 : Nat) (a8 : SG × Int32) : SG × Int32 := let v9 := (1103515245 * a8.2) + 12345; let v10 := bif m_cmp .ge (Int32.ofNat i8) n then (2 : Int32) else ((Int32.toUInt32 v9 >>> (Int32.toUInt32 16 &&& Int32.toUInt32 31)).toInt32) - ((Int32.toUInt32 v9 >>> (Int32.toUInt32 16 &&& Int32.toUInt32 31)).toInt32) / 4 * 4; ((uset a8.1 56 i8 v10), v9)
set_option maxRecDepth 20000 in
set_option maxHeartbeats 200000 in
theorem fr_B_cyears_19 (n : Int32) (i8 : Nat) (a8 : SG × Int32)  (hi8 : i8 < 24) : Fr W_cyears a8.1 ((B_cyears_19 n) i8 a8).1 := by dsimp only [B_cyears_19]; exact (let v9 : Int32 := (1103515245 * a8.2) + 12345; (let v10 : Int32 := bif m_cmp .ge (Int32.ofNat i8) n then (2 : Int32) else ((Int32.toUInt32 v9 >>> (Int32.toUInt32 16 &&& Int32.toUInt32 31)).toInt32) - ((Int32.toUInt32 v9 >>> (Int32.toUInt32 16 &&& Int32.toUInt32 31)).toInt32) / 4 * 4; (Fr.uset (s1 := a8.1) (a := 56) (j := i8) (x := v10) (by rfl) (Fr.rf _ _))))
def F_cyears (s : SG) (seed : Int32) (n : Int32) (what : Int32) : Int32 × SG := bif m_cmp .eq (F_isBelow s n 25) 0 then (((-2), s)) else (bif m_cmp .ne (F_isBelow s what 2) 0 then (let z7 := F_take s ; let z8 := itr (B_cyears_19 n) 0 24 (z7, seed); let z11 := F_rowOther z8.1 ; let v12 := bif m_cmp .ne what 0 then z11 60 23 else z11 59 23; (v12, z11)) else (((-2), s)))
set_option maxRecDepth 20000 in
set_option maxHeartbeats 200000 in
theorem fr_cyears (s : SG) (seed : Int32) (n : Int32) (what : Int32)  : Fr W_cyears s (F_cyears s seed n what).2 := by dsimp only [F_cyears]; exact (Fr.bifp (b := m_cmp .eq (F_isBelow s n 25) 0) (x := ((-2), s)) (y := bif m_cmp .ne (F_isBelow s what 2) 0 then (let z7 := F_take s ; let z8 := itr (B_cyears_19 n) 0 24 (z7, seed); let z11 := F_rowOther z8.1 ; let v12 := bif m_cmp .ne what 0 then z11 60 23 else z11 59 23; (v12, z11)) else (((-2), s))) (fun x : Int32 × SG => x.2) (by (try dsimp only); exact (Fr.rf _ _)) (by (try dsimp only); exact (Fr.bifp (b := m_cmp .ne (F_isBelow s what 2) 0) (x := let z7 := F_take s ; let z8 := itr (B_cyears_19 n) 0 24 (z7, seed); let z11 := F_rowOther z8.1 ; let v12 := bif m_cmp .ne what 0 then z11 60 23 else z11 59 23; (v12, z11)) (y := ((-2), s)) (fun x : Int32 × SG => x.2) (by (try dsimp only); exact (let z7 : SG := F_take s ; (let z8 : SG × Int32 := itr (B_cyears_19 n) 0 24 (z7, seed); (Fr.tr (s1 := z8.1) (frItrB (W := W_cyears) (m := (fun x : SG × Int32 => x.1)) (f := (B_cyears_19 n)) 24 (fun ii aa hh => Fr.wk (W2 := W_cyears) (fr_B_cyears_19 n ii aa  hh) (by rfl)) 24 0 (z7, seed) (by omega) (Fr.tr (s1 := s) (Fr.rf _ _) (Fr.wk (W2 := W_cyears) (fr_take s ) (by rfl)))) (Fr.wk (W2 := W_cyears) (fr_rowOther z8.1 ) (by rfl)))))) (by (try dsimp only); exact (Fr.rf _ _)))))
set_option maxRecDepth 20000 in
set_option maxHeartbeats 200000 in
theorem ux_cyears (s : SG) (seed : Int32) (n : Int32) (what : Int32)  : UP m_X6_years 0 (m_ent 6 [.ref 0, .int seed, .int n, .int what]) [] s (Qb (F_cyears s seed n what)) := by
  refine UP.stp 2 (i1 := 2) (L1 := [some (.ref 0), some (.int seed), some (.int n), some (.int what), none, none]) (st1 := [.int 25, .int n]) (s1 := s) rfl ?_
  refine UP.cI (M1 := m_X6_isBelow) (as := [.int n, .int 25]) (rest := []) (T := F_isBelow s n 25) rfl rfl (ux_isBelow s n 25) ?_
  refine UP.spl (m_cmp .eq (F_isBelow s n 25) 0) (((-2), s)) (bif m_cmp .ne (F_isBelow s what 2) 0 then (let z7 := F_take s ; let z8 := itr (B_cyears_19 n) 0 24 (z7, seed); let z11 := F_rowOther z8.1 ; let v12 := bif m_cmp .ne what 0 then z11 60 23 else z11 59 23; (v12, z11)) else (((-2), s))) (by first | (dsimp only [F_cyears]; done) | (dsimp only; done) | rfl) (fun cc => ?_) (fun cc => ?_)
  · skip
    refine UP.ifT rfl cc ?_
    refine UP.stp 1 (i1 := 9) (L1 := [some (.ref 0), some (.int seed), some (.int n), some (.int what), none, none]) (st1 := [.int (-2)]) (s1 := s) rfl ?_
    exact UP.ret (r := some (.int (-2))) rfl ⟨by first | (dsimp only [F_cyears]; done) | (dsimp only; done) | rfl, by first | (dsimp only [F_cyears]; done) | (dsimp only; done) | rfl⟩
  · skip
    refine UP.ifF rfl cc ?_
    refine UP.stp 2 (i1 := 6) (L1 := [some (.ref 0), some (.int seed), some (.int n), some (.int what), none, none]) (st1 := [.int 2, .int what]) (s1 := s) rfl ?_
    refine UP.cI (M1 := m_X6_isBelow) (as := [.int what, .int 2]) (rest := []) (T := F_isBelow s what 2) rfl rfl (ux_isBelow s what 2) ?_
    refine UP.spl (m_cmp .ne (F_isBelow s what 2) 0) (let z7 := F_take s ; let z8 := itr (B_cyears_19 n) 0 24 (z7, seed); let z11 := F_rowOther z8.1 ; let v12 := bif m_cmp .ne what 0 then z11 60 23 else z11 59 23; (v12, z11)) (((-2), s)) (by first | (dsimp only [F_cyears]; done) | (dsimp only; done) | rfl) (fun cc => ?_) (fun cc => ?_)
    · skip
      refine UP.ifT rfl cc ?_
      refine UP.stp 4 (i1 := 14) (L1 := [some (.ref 0), some (.int seed), some (.int n), some (.int what), none, none]) (st1 := [.ref 10, .ref 53]) (s1 := s) rfl ?_
      refine UP.cV (M1 := m_X0_take) (as := [.ref 53, .ref 10]) (rest := []) (T := F_take s ) rfl rfl (ux_take s ) (fun z7 e7 => ?_)
      refine UP.stp 4 (i1 := 19) (L1 := [some (.ref 0), some (.int seed), some (.int n), some (.int what), some (.int seed), some (.int 0)]) (st1 := []) (s1 := z7) rfl ?_
      refine lp (fun (i8 : Nat) (a8 : SG × Int32) => ∀ (u8_1 : Option Value), UP m_X6_years 19 [some (.ref 0), u8_1, some (.int n), some (.int what), some (.int a8.2), some (.int (Int32.ofNat i8))] [] a8.1 (Qb (let z7 := F_take s ; let z8 := itr (B_cyears_19 n) 0 24 (z7, seed); let z11 := F_rowOther z8.1 ; let v12 := bif m_cmp .ne what 0 then z11 60 23 else z11 59 23; (v12, z11)))) (fun (_ : Nat) (a8 : SG × Int32) => Fr W_cyears z7 a8.1) (B_cyears_19 n) (24) (fun i8 a8 hi8 g8 => g8.tr (fr_B_cyears_19 n i8 a8 hi8)) (fun i8 a8 hi8 g8 kk => ?_) 24 (0) (z7, seed) (by  omega) (Fr.rf _ _) (fun z8 e8 g8 => ?_) (some (.int seed))
      · skip
        intro u8_1
        refine UP.stp 2 (i1 := 21) (L1 := [some (.ref 0), u8_1, some (.int n), some (.int what), some (.int a8.2), some (.int (Int32.ofNat i8))]) (st1 := [.int 24, .int (Int32.ofNat i8)]) (s1 := a8.1) rfl ?_
        refine UP.icF rfl (ge_F (show i8 < (24 : Int32).toNatClampNeg from hi8)) ?_
        refine UP.stp 5 (i1 := 27) (L1 := [some (.ref 0), u8_1, some (.int n), some (.int what), some (.int a8.2), some (.int (Int32.ofNat i8))]) (st1 := [.int ((1103515245 * a8.2) + 12345)]) (s1 := a8.1) rfl ?_
        refine nm (G := fun v9 => UP m_X6_years 27 [some (.ref 0), u8_1, some (.int n), some (.int what), some (.int a8.2), some (.int (Int32.ofNat i8))] [.int v9] a8.1 (Qb (let z7 := F_take s ; let z8 := itr (B_cyears_19 n) 0 24 (z7, seed); let z11 := F_rowOther z8.1 ; let v12 := bif m_cmp .ne what 0 then z11 60 23 else z11 59 23; (v12, z11)))) ((1103515245 * a8.2) + 12345) (fun v9 e9 => ?_)
        refine UP.stp 7 (i1 := 34) (L1 := [some (.ref 0), u8_1, some (.int n), some (.int what), some (.int v9), some (.int (Int32.ofNat i8))]) (st1 := [.int n, .int (Int32.ofNat i8), .int (Int32.ofNat i8), .ref 56]) (s1 := a8.1) rfl ?_
        refine mrg (m_cmp .ge (Int32.ofNat i8) n) (2 : Int32) (((Int32.toUInt32 v9 >>> (Int32.toUInt32 16 &&& Int32.toUInt32 31)).toInt32) - ((Int32.toUInt32 v9 >>> (Int32.toUInt32 16 &&& Int32.toUInt32 31)).toInt32) / 4 * 4) (fun v10 : Int32 => UP m_X6_years 42 [some (.ref 0), u8_1, some (.int n), some (.int what), some (.int v9), some (.int (Int32.ofNat i8))] [.int v10, .int (Int32.ofNat i8), .ref 56] a8.1 (Qb (let z7 := F_take s ; let z8 := itr (B_cyears_19 n) 0 24 (z7, seed); let z11 := F_rowOther z8.1 ; let v12 := bif m_cmp .ne what 0 then z11 60 23 else z11 59 23; (v12, z11)))) (fun cc kk => ?_) (fun cc kk => ?_) (fun v10 e10 => ?_)
        · skip
          refine UP.icT rfl cc ?_
          refine UP.stp 1 (i1 := 42) (L1 := [some (.ref 0), u8_1, some (.int n), some (.int what), some (.int v9), some (.int (Int32.ofNat i8))]) (st1 := [.int 2, .int (Int32.ofNat i8), .ref 56]) (s1 := a8.1) rfl ?_
          exact kk
        · skip
          refine UP.icF rfl cc ?_
          refine UP.stp 6 (i1 := 42) (L1 := [some (.ref 0), u8_1, some (.int n), some (.int what), some (.int v9), some (.int (Int32.ofNat i8))]) (st1 := [.int (((Int32.toUInt32 v9 >>> (Int32.toUInt32 16 &&& Int32.toUInt32 31)).toInt32) - ((Int32.toUInt32 v9 >>> (Int32.toUInt32 16 &&& Int32.toUInt32 31)).toInt32) / 4 * 4), .int (Int32.ofNat i8), .ref 56]) (s1 := a8.1) rfl ?_
          exact kk
        refine UP.ast (e := i8) rfl rfl (by omega) ?_
        show UP m_X6_years 43 [some (.ref 0), u8_1, some (.int n), some (.int what), some (.int v9), some (.int (Int32.ofNat i8))] [] (uset a8.1 56 i8 v10) (Qb (let z7 := F_take s ; let z8 := itr (B_cyears_19 n) 0 24 (z7, seed); let z11 := F_rowOther z8.1 ; let v12 := bif m_cmp .ne what 0 then z11 60 23 else z11 59 23; (v12, z11)))
        refine UP.stp 2 (i1 := 19) (L1 := [some (.ref 0), u8_1, some (.int n), some (.int what), some (.int v9), some (.int ((Int32.ofNat i8) + 1))]) (st1 := []) (s1 := (uset a8.1 56 i8 v10)) rfl ?_
        subst e10 e9
        rw [ofn_s]
        try dsimp only [B_cyears_19] at kk
        exact kk _
      intro u8_1
      refine UP.stp 2 (i1 := 21) (L1 := [some (.ref 0), u8_1, some (.int n), some (.int what), some (.int z8.2), some (.int (Int32.ofNat 24))]) (st1 := [.int 24, .int (Int32.ofNat 24)]) (s1 := z8.1) rfl ?_
      refine UP.icT rfl (ge_T (24 : Int32)) ?_
      refine UP.stp 1 (i1 := 46) (L1 := [some (.ref 0), u8_1, some (.int n), some (.int what), some (.int z8.2), some (.int (Int32.ofNat 24))]) (st1 := [.ref 0]) (s1 := z8.1) rfl ?_
      refine UP.cR (M1 := m_X6_rowOther) (as := [.ref 0]) (rest := []) (T := F_rowOther z8.1 ) (a := 58) rfl rfl (ux_rowOther z8.1 ) (fun z11 e11 => ?_)
      refine UP.stp 2 (i1 := 49) (L1 := [some (.ref 0), u8_1, some (.int n), some (.int what), some (.int z8.2), some (.ref 58)]) (st1 := [.int what]) (s1 := z11) rfl ?_
      refine mrg (m_cmp .ne what 0) (z11 60 23) (z11 59 23) (fun v12 : Int32 => UP m_X6_years 59 [some (.ref 0), u8_1, some (.int n), some (.int what), some (.int z8.2), some (.ref 58)] [.int v12] z11 (Qb (let z7 := F_take s ; let z8 := itr (B_cyears_19 n) 0 24 (z7, seed); let z11 := F_rowOther z8.1 ; let v12 := bif m_cmp .ne what 0 then z11 60 23 else z11 59 23; (v12, z11)))) (fun cc kk => ?_) (fun cc kk => ?_) (fun v12 e12 => ?_)
      · skip
        refine UP.ifT rfl cc ?_
        refine UP.stp 4 (i1 := 59) (L1 := [some (.ref 0), u8_1, some (.int n), some (.int what), some (.int z8.2), some (.ref 58)]) (st1 := [.int (z11 60 23)]) (s1 := z11) rfl ?_
        exact kk
      · skip
        refine UP.ifF rfl cc ?_
        refine UP.stp 5 (i1 := 59) (L1 := [some (.ref 0), u8_1, some (.int n), some (.int what), some (.int z8.2), some (.ref 58)]) (st1 := [.int (z11 59 23)]) (s1 := z11) rfl ?_
        exact kk
      exact UP.ret (r := some (.int v12)) rfl ⟨by subst e12 e11 e8 e7; first | (dsimp only [F_cyears]; done) | (dsimp only; done) | rfl, by subst e12 e11 e8 e7; first | (dsimp only [F_cyears]; done) | (dsimp only; done) | rfl⟩
    · skip
      refine UP.ifF rfl cc ?_
      refine UP.stp 1 (i1 := 9) (L1 := [some (.ref 0), some (.int seed), some (.int n), some (.int what), none, none]) (st1 := [.int (-2)]) (s1 := s) rfl ?_
      exact UP.ret (r := some (.int (-2))) rfl ⟨by first | (dsimp only [F_cyears]; done) | (dsimp only; done) | rfl, by first | (dsimp only [F_cyears]; done) | (dsimp only; done) | rfl⟩
end
section
def W_agreeWith : List (Nat × Nat × Option Nat) := []
def B_agreeWith_2 (s : SG) (i1 : Nat) (a1 : Unit) : (Unit) ⊕ (Int32) := bif m_cmp .eq (s 60 ((s 7 i1).toNatClampNeg)) (s 8 i1) then (.inl ()) else (.inr 0)
def F_agreeWith (s : SG)  : Int32 := Sum.elim (fun z1 : Unit => 1) (fun x : Nat × (Int32) => x.2) (itx (B_agreeWith_2 s) 0 ((s 6 2).toNatClampNeg) ())
set_option maxRecDepth 20000 in
set_option maxHeartbeats 200000 in
theorem ux_agreeWith (s : SG)   : UP m_X2_agreeWith 0 (m_ent 3 [.ref 6, .ref 58]) [] s (Qi s (F_agreeWith s)) := by
  refine UP.stp 2 (i1 := 2) (L1 := [some (.ref 6), some (.ref 58), some (.int 0)]) (st1 := []) (s1 := s) rfl ?_
  refine lpx (fun (i1 : Nat) (a1 : Unit) => UP m_X2_agreeWith 2 [some (.ref 6), some (.ref 58), some (.int (Int32.ofNat i1))] [] s (Qi s (F_agreeWith s))) (fun (_ : Nat) (b1 : Int32) => (F_agreeWith s) = b1) (fun (_ : Nat) (a1 : Unit) => Fr W_agreeWith s s) (B_agreeWith_2 s) ((s 6 2).toNatClampNeg) (fun i1 a1 x1 hi1 g1 e => g1) (fun i1 a1 hi1 g1 kk => ?_) ((s 6 2).toNatClampNeg) (0) () (by omega) (Fr.rf _ _) (fun z1 e1 g1 => ?_) (fun i1 a1 b1 e1 hi1 g1 f1 => by have q : (F_agreeWith s) = Sum.elim (fun z1 : Unit => 1) (fun x : Nat × (Int32) => x.2) (itx (B_agreeWith_2 s) 0 ((s 6 2).toNatClampNeg) ()) := (by first | (dsimp only [F_agreeWith]; done) | (dsimp only; done) | rfl); rw [q, e1]; first | (dsimp only [Sum.elim_inr]; done) | rfl)
  · skip
    have hbi1 := cl_lt (s 6 2)
    refine UP.stp 3 (i1 := 5) (L1 := [some (.ref 6), some (.ref 58), some (.int (Int32.ofNat i1))]) (st1 := [.int (s 6 2), .int (Int32.ofNat i1)]) (s1 := s) rfl ?_
    refine UP.icF rfl (ge_F hi1) ?_
    refine UP.stp 5 (i1 := 11) (L1 := [some (.ref 6), some (.ref 58), some (.int (Int32.ofNat i1))]) (st1 := [.int (Int32.ofNat i1), .ref 7, .ref 60]) (s1 := s) rfl ?_
    refine UP.ald (e := i1) rfl rfl (by omega) ?_
    show UP m_X2_agreeWith 12 [some (.ref 6), some (.ref 58), some (.int (Int32.ofNat i1))] [.int (s 7 i1), .ref 60] s (Qi s (F_agreeWith s))
    refine UP.stp 4 (i1 := 16) (L1 := [some (.ref 6), some (.ref 58), some (.int (Int32.ofNat i1))]) (st1 := [.int (Int32.ofNat i1), .ref 8, .int (s 60 ((s 7 i1).toNatClampNeg))]) (s1 := s) rfl ?_
    refine UP.ald (e := i1) rfl rfl (by omega) ?_
    show UP m_X2_agreeWith 17 [some (.ref 6), some (.ref 58), some (.int (Int32.ofNat i1))] [.int (s 8 i1), .int (s 60 ((s 7 i1).toNatClampNeg))] s (Qi s (F_agreeWith s))
    refine brk (K := (Kx (fun (i1 : Nat) (a1 : Unit) => UP m_X2_agreeWith 2 [some (.ref 6), some (.ref 58), some (.int (Int32.ofNat i1))] [] s (Qi s (F_agreeWith s))) (fun (_ : Nat) (b1 : Int32) => (F_agreeWith s) = b1) i1)) (m_cmp .eq (s 60 ((s 7 i1).toNatClampNeg)) (s 8 i1)) (.inl ()) (.inr 0) (by (try dsimp only [B_agreeWith_2] at kk ⊢); exact kk) (fun cc kk => ?_) (fun cc kk => ?_)
    · skip
      refine UP.icT rfl cc ?_
      refine UP.stp 2 (i1 := 2) (L1 := [some (.ref 6), some (.ref 58), some (.int ((Int32.ofNat i1) + 1))]) (st1 := []) (s1 := s) rfl ?_
      rw [ofn_s]
      exact kk
    · skip
      refine UP.icF rfl cc ?_
      refine UP.stp 1 (i1 := 19) (L1 := [some (.ref 6), some (.ref 58), some (.int (Int32.ofNat i1))]) (st1 := [.int 0]) (s1 := s) rfl ?_
      have kk : (F_agreeWith s) = 0 := by exact kk
      exact UP.ret (r := some (.int 0)) rfl ⟨by rw [kk], rfl⟩
  · skip
    refine UP.eqT (1) (by have q : (F_agreeWith s) = Sum.elim (fun z1 : Unit => 1) (fun x : Nat × (Int32) => x.2) (itx (B_agreeWith_2 s) 0 ((s 6 2).toNatClampNeg) ()) := (by first | (dsimp only [F_agreeWith]; done) | (dsimp only; done) | rfl); rw [q, e1]; first | (dsimp only [Sum.elim_inl]; done) | rfl) ?_
    refine UP.stp 3 (i1 := 5) (L1 := [some (.ref 6), some (.ref 58), some (.int (Int32.ofNat ((s 6 2).toNatClampNeg)))]) (st1 := [.int (s 6 2), .int (Int32.ofNat ((s 6 2).toNatClampNeg))]) (s1 := s) rfl ?_
    refine UP.icT rfl (ge_T _) ?_
    refine UP.stp 1 (i1 := 23) (L1 := [some (.ref 6), some (.ref 58), some (.int (Int32.ofNat ((s 6 2).toNatClampNeg)))]) (st1 := [.int 1]) (s1 := s) rfl ?_
    exact UP.ret (r := some (.int 1)) rfl ⟨by first | (dsimp only [F_agreeWith]; done) | (dsimp only; done) | rfl, by first | (dsimp only [F_agreeWith]; done) | (dsimp only; done) | rfl⟩
def W_cnever : List (Nat × Nat × Option Nat) := [(16, 20, none), (22, 45, none), (46, 52, none), (15, 15, some 8), (59, 63, none), (65, 88, none), (89, 95, none), (58, 58, some 8), (53, 57, none), (96, 108, none), (0, 0, some 12), (0, 0, some 13)]
def B_cnever_4  (i1 : Nat) (a1 : SG × Int32) : SG × Int32 := let z2 := F_row_c a1.1 ((255 : Int32) &&& ((1 <<< ((Int32.ofNat i1) &&& 31)) ^^^ (-1 : Int32))); let v5 := bif m_cmp .eq (F_agreeWith z2) 0 then a1.2 else (a1.2 ||| (1 <<< ((Int32.ofNat i1) &&& 31))); (z2, v5)
set_option maxRecDepth 20000 in
set_option maxHeartbeats 200000 in
theorem fr_B_cnever_4  (i1 : Nat) (a1 : SG × Int32)   : Fr W_cnever a1.1 ((B_cnever_4) i1 a1).1 := by dsimp only [B_cnever_4]; exact (Fr.tr (s1 := a1.1) (Fr.rf _ _) (Fr.wk (W2 := W_cnever) (fr_row_c a1.1 ((255 : Int32) &&& ((1 <<< ((Int32.ofNat i1) &&& 31)) ^^^ (-1 : Int32)))) (by rfl)))
def F_cnever (s : SG)  : Int32 × SG := let z1 := itr (B_cnever_4) 0 ((s 2 3).toNatClampNeg) (s, 0); (z1.2, z1.1)
set_option maxRecDepth 20000 in
set_option maxHeartbeats 200000 in
theorem fr_cnever (s : SG)   : Fr W_cnever s (F_cnever s).2 := by dsimp only [F_cnever]; exact (Fr.itr (W := W_cnever) (m := (fun x : SG × Int32 => x.1)) (f := (B_cnever_4)) (fun ii aa => Fr.wk (W2 := W_cnever) (fr_B_cnever_4  ii aa ) (by rfl)) ((s 2 3).toNatClampNeg) 0 (s, 0) (Fr.rf _ _))
set_option maxRecDepth 20000 in
set_option maxHeartbeats 200000 in
theorem ux_cnever (s : SG)   : UP m_X6_never 0 (m_ent 3 [.ref 0]) [] s (Qb (F_cnever s)) := by
  refine UP.stp 4 (i1 := 4) (L1 := [some (.ref 0), some (.int 0), some (.int 0)]) (st1 := []) (s1 := s) rfl ?_
  refine lp (fun (i1 : Nat) (a1 : SG × Int32) => UP m_X6_never 4 [some (.ref 0), some (.int a1.2), some (.int (Int32.ofNat i1))] [] a1.1 (Qb (F_cnever s))) (fun (_ : Nat) (a1 : SG × Int32) => Fr W_cnever s a1.1) (B_cnever_4) ((s 2 3).toNatClampNeg) (fun i1 a1 hi1 g1 => g1.tr (fr_B_cnever_4  i1 a1 )) (fun i1 a1 hi1 g1 kk => ?_) ((s 2 3).toNatClampNeg) (0) (s, 0) (by  omega) (Fr.rf _ _) (fun z1 e1 g1 => ?_)
  · skip
    have hbi1 := cl_lt (s 2 3)
    refine UP.stp 4 (i1 := 8) (L1 := [some (.ref 0), some (.int a1.2), some (.int (Int32.ofNat i1))]) (st1 := [.int (a1.1 2 3), .int (Int32.ofNat i1)]) (s1 := a1.1) rfl ?_
    refine UP.icF rfl (by rw [(g1 2 3 rfl)]; exact ge_F hi1) ?_
    refine UP.stp 13 (i1 := 22) (L1 := [some (.ref 0), some (.int a1.2), some (.int (Int32.ofNat i1))]) (st1 := [.int ((255 : Int32) &&& ((1 <<< ((Int32.ofNat i1) &&& 31)) ^^^ (-1 : Int32))), .ref 2, .ref 10, .ref 58]) (s1 := a1.1) rfl ?_
    refine UP.cV (M1 := m_X5_row) (as := [.ref 58, .ref 10, .ref 2, .int ((255 : Int32) &&& ((1 <<< ((Int32.ofNat i1) &&& 31)) ^^^ (-1 : Int32)))]) (rest := []) (T := F_row_c a1.1 ((255 : Int32) &&& ((1 <<< ((Int32.ofNat i1) &&& 31)) ^^^ (-1 : Int32)))) rfl rfl (ux_row_c a1.1 ((255 : Int32) &&& ((1 <<< ((Int32.ofNat i1) &&& 31)) ^^^ (-1 : Int32)))) (fun z2 e2 => ?_)
    refine UP.stp 4 (i1 := 27) (L1 := [some (.ref 0), some (.int a1.2), some (.int (Int32.ofNat i1))]) (st1 := [.ref 58, .ref 6]) (s1 := z2) rfl ?_
    refine UP.cI (M1 := m_X2_agreeWith) (as := [.ref 6, .ref 58]) (rest := []) (T := F_agreeWith z2 ) rfl rfl (ux_agreeWith z2 ) ?_
    refine mrg (m_cmp .eq (F_agreeWith z2) 0) a1.2 (a1.2 ||| (1 <<< ((Int32.ofNat i1) &&& 31))) (fun v5 : Int32 => UP m_X6_never 35 [some (.ref 0), some (.int v5), some (.int (Int32.ofNat i1))] [] z2 (Qb (F_cnever s))) (fun cc kk => ?_) (fun cc kk => ?_) (fun v5 e5 => ?_)
    · skip
      refine UP.ifT rfl cc ?_
      exact kk
    · skip
      refine UP.ifF rfl cc ?_
      refine UP.stp 5 (i1 := 34) (L1 := [some (.ref 0), some (.int a1.2), some (.int (Int32.ofNat i1))]) (st1 := [.int (a1.2 ||| (1 <<< ((Int32.ofNat i1) &&& 31)))]) (s1 := z2) rfl ?_
      refine nm (G := fun v4 => UP m_X6_never 34 [some (.ref 0), some (.int a1.2), some (.int (Int32.ofNat i1))] [.int v4] z2 (Qb (F_cnever s))) (a1.2 ||| (1 <<< ((Int32.ofNat i1) &&& 31))) (fun v4 e4 => ?_)
      refine UP.stp 1 (i1 := 35) (L1 := [some (.ref 0), some (.int v4), some (.int (Int32.ofNat i1))]) (st1 := []) (s1 := z2) rfl ?_
      subst e4
      exact kk
    refine UP.stp 2 (i1 := 4) (L1 := [some (.ref 0), some (.int v5), some (.int ((Int32.ofNat i1) + 1))]) (st1 := []) (s1 := z2) rfl ?_
    subst e5 e2
    rw [ofn_s]
    try dsimp only [B_cnever_4] at kk
    exact kk
  refine UP.stp 4 (i1 := 8) (L1 := [some (.ref 0), some (.int z1.2), some (.int (Int32.ofNat ((s 2 3).toNatClampNeg)))]) (st1 := [.int (z1.1 2 3), .int (Int32.ofNat ((s 2 3).toNatClampNeg))]) (s1 := z1.1) rfl ?_
  refine UP.icT rfl (by rw [(g1 2 3 rfl)]; exact ge_T _) ?_
  refine UP.stp 1 (i1 := 38) (L1 := [some (.ref 0), some (.int z1.2), some (.int (Int32.ofNat ((s 2 3).toNatClampNeg)))]) (st1 := [.int z1.2]) (s1 := z1.1) rfl ?_
  exact UP.ret (r := some (.int z1.2)) rfl ⟨by subst e1; first | (dsimp only [F_cnever]; done) | (dsimp only; done) | rfl, by subst e1; first | (dsimp only [F_cnever]; done) | (dsimp only; done) | rfl⟩
def W_mvsR : Nat := 0
set_option maxRecDepth 20000 in
set_option maxHeartbeats 200000 in
theorem frMvsR {W : List (Nat × Nat × Option Nat)} {s s1 : SG} {a0 i a1 j n : Nat} (lo hi : Nat) (h1 : lo ≤ a1) (h2 : a1 ≤ hi) (hm : W.any (fun w => w.1 == lo && (w.2.1 == hi && w.2.2.isNone)) = true) (k : Fr W s s1) : Fr W s (mvs s1 a0 i a1 j n) := fun b q hb => by
  show (if b = a1 ∧ j ≤ q ∧ q < j + n then s1 a0 (i + (q - j)) else s1 b q) = s b q
  by_cases e : b = a1 ∧ j ≤ q ∧ q < j + n
  · have q2 : inW W b q = true := inW_r lo hi (by rw [e.1]; exact h1) (by rw [e.1]; exact h2) hm
    rw [q2] at hb
    cases hb
  · rw [if_neg e]
    exact k b q hb
end
