section
def W_ccopy_22 : List (Nat × Nat × Option Nat) := [(120, 120, none), (0, 0, some 4)]
def F_ccopy_22 (s : SG) (i : Int32) (j : Int32) (n : Int32) : Int32 × SG := bif m_cmp .eq (F_isBelow s 2 4) 0 then (((-2), s)) else (bif m_cmp .ne (F_isBelow s 2 4) 0 then (bif m_cmp .ne (s 119 1) 0 then (let z9 := F_find s 1; z9) else (bif m_cmp .eq (s 119 1) 0 then (bif m_cmp .eq (s 119 2) (s 119 2) then (bif m_cmp .eq (F_hasRange_2 s i n) 0 then (let z17 := F_find s 2; z17) else (bif m_cmp .ne (F_hasRange_2 s j n) 0 then ((1, (mvs s 120 i.toNatClampNeg 120 j.toNatClampNeg n.toNatClampNeg))) else (let z21 := F_find s 2; z21))) else (let z22 := F_find s 4; z22)) else (let z23 := F_find s 1; z23))) else (((-2), s)))
set_option maxRecDepth 20000 in
set_option maxHeartbeats 200000 in
theorem fr_ccopy_22 (s : SG) (i : Int32) (j : Int32) (n : Int32)  : Fr W_ccopy_22 s (F_ccopy_22 s i j n).2 := by dsimp only [F_ccopy_22]; exact (Fr.bifp (b := m_cmp .eq (F_isBelow s 2 4) 0) (x := ((-2), s)) (y := bif m_cmp .ne (F_isBelow s 2 4) 0 then (bif m_cmp .ne (s 119 1) 0 then (let z9 := F_find s 1; z9) else (bif m_cmp .eq (s 119 1) 0 then (bif m_cmp .eq (s 119 2) (s 119 2) then (bif m_cmp .eq (F_hasRange_2 s i n) 0 then (let z17 := F_find s 2; z17) else (bif m_cmp .ne (F_hasRange_2 s j n) 0 then ((1, (mvs s 120 i.toNatClampNeg 120 j.toNatClampNeg n.toNatClampNeg))) else (let z21 := F_find s 2; z21))) else (let z22 := F_find s 4; z22)) else (let z23 := F_find s 1; z23))) else (((-2), s))) (fun x : Int32 × SG => x.2) (by (try dsimp only); exact (Fr.rf _ _)) (by (try dsimp only); exact (Fr.bifp (b := m_cmp .ne (F_isBelow s 2 4) 0) (x := bif m_cmp .ne (s 119 1) 0 then (let z9 := F_find s 1; z9) else (bif m_cmp .eq (s 119 1) 0 then (bif m_cmp .eq (s 119 2) (s 119 2) then (bif m_cmp .eq (F_hasRange_2 s i n) 0 then (let z17 := F_find s 2; z17) else (bif m_cmp .ne (F_hasRange_2 s j n) 0 then ((1, (mvs s 120 i.toNatClampNeg 120 j.toNatClampNeg n.toNatClampNeg))) else (let z21 := F_find s 2; z21))) else (let z22 := F_find s 4; z22)) else (let z23 := F_find s 1; z23))) (y := ((-2), s)) (fun x : Int32 × SG => x.2) (by (try dsimp only); exact (Fr.bifp (b := m_cmp .ne (s 119 1) 0) (x := let z9 := F_find s 1; z9) (y := bif m_cmp .eq (s 119 1) 0 then (bif m_cmp .eq (s 119 2) (s 119 2) then (bif m_cmp .eq (F_hasRange_2 s i n) 0 then (let z17 := F_find s 2; z17) else (bif m_cmp .ne (F_hasRange_2 s j n) 0 then ((1, (mvs s 120 i.toNatClampNeg 120 j.toNatClampNeg n.toNatClampNeg))) else (let z21 := F_find s 2; z21))) else (let z22 := F_find s 4; z22)) else (let z23 := F_find s 1; z23)) (fun x : Int32 × SG => x.2) (by (try dsimp only); exact (Fr.tr (s1 := s) (Fr.rf _ _) (Fr.wk (W2 := W_ccopy_22) (fr_find s 1) (by rfl)))) (by (try dsimp only); exact (Fr.bifp (b := m_cmp .eq (s 119 1) 0) (x := bif m_cmp .eq (s 119 2) (s 119 2) then (bif m_cmp .eq (F_hasRange_2 s i n) 0 then (let z17 := F_find s 2; z17) else (bif m_cmp .ne (F_hasRange_2 s j n) 0 then ((1, (mvs s 120 i.toNatClampNeg 120 j.toNatClampNeg n.toNatClampNeg))) else (let z21 := F_find s 2; z21))) else (let z22 := F_find s 4; z22)) (y := let z23 := F_find s 1; z23) (fun x : Int32 × SG => x.2) (by (try dsimp only); exact (Fr.bifp (b := m_cmp .eq (s 119 2) (s 119 2)) (x := bif m_cmp .eq (F_hasRange_2 s i n) 0 then (let z17 := F_find s 2; z17) else (bif m_cmp .ne (F_hasRange_2 s j n) 0 then ((1, (mvs s 120 i.toNatClampNeg 120 j.toNatClampNeg n.toNatClampNeg))) else (let z21 := F_find s 2; z21))) (y := let z22 := F_find s 4; z22) (fun x : Int32 × SG => x.2) (by (try dsimp only); exact (Fr.bifp (b := m_cmp .eq (F_hasRange_2 s i n) 0) (x := let z17 := F_find s 2; z17) (y := bif m_cmp .ne (F_hasRange_2 s j n) 0 then ((1, (mvs s 120 i.toNatClampNeg 120 j.toNatClampNeg n.toNatClampNeg))) else (let z21 := F_find s 2; z21)) (fun x : Int32 × SG => x.2) (by (try dsimp only); exact (Fr.tr (s1 := s) (Fr.rf _ _) (Fr.wk (W2 := W_ccopy_22) (fr_find s 2) (by rfl)))) (by (try dsimp only); exact (Fr.bifp (b := m_cmp .ne (F_hasRange_2 s j n) 0) (x := (1, (mvs s 120 i.toNatClampNeg 120 j.toNatClampNeg n.toNatClampNeg))) (y := let z21 := F_find s 2; z21) (fun x : Int32 × SG => x.2) (by (try dsimp only); exact (Fr.mvs (by rfl) (Fr.rf _ _))) (by (try dsimp only); exact (Fr.tr (s1 := s) (Fr.rf _ _) (Fr.wk (W2 := W_ccopy_22) (fr_find s 2) (by rfl)))))))) (by (try dsimp only); exact (Fr.tr (s1 := s) (Fr.rf _ _) (Fr.wk (W2 := W_ccopy_22) (fr_find s 4) (by rfl)))))) (by (try dsimp only); exact (Fr.tr (s1 := s) (Fr.rf _ _) (Fr.wk (W2 := W_ccopy_22) (fr_find s 1) (by rfl)))))))) (by (try dsimp only); exact (Fr.rf _ _)))))
set_option maxRecDepth 20000 in
set_option maxHeartbeats 200000 in
theorem ux_ccopy_22 (s : SG) (i : Int32) (j : Int32) (n : Int32)  : UP m_X6_copy 0 (m_ent 8 [.ref 0, .int 2, .int i, .int 2, .int j, .int n]) [] s (Qb (F_ccopy_22 s i j n)) := by
  refine UP.stp 2 (i1 := 2) (L1 := [some (.ref 0), some (.int 2), some (.int i), some (.int 2), some (.int j), some (.int n), none, none]) (st1 := [.int 4, .int 2]) (s1 := s) rfl ?_
  refine UP.cI (M1 := m_X6_isBelow) (as := [.int 2, .int 4]) (rest := []) (T := F_isBelow s 2 4) rfl rfl (ux_isBelow s 2 4) ?_
  refine UP.spl (m_cmp .eq (F_isBelow s 2 4) 0) (((-2), s)) (bif m_cmp .ne (F_isBelow s 2 4) 0 then (bif m_cmp .ne (s 119 1) 0 then (let z9 := F_find s 1; z9) else (bif m_cmp .eq (s 119 1) 0 then (bif m_cmp .eq (s 119 2) (s 119 2) then (bif m_cmp .eq (F_hasRange_2 s i n) 0 then (let z17 := F_find s 2; z17) else (bif m_cmp .ne (F_hasRange_2 s j n) 0 then ((1, (mvs s 120 i.toNatClampNeg 120 j.toNatClampNeg n.toNatClampNeg))) else (let z21 := F_find s 2; z21))) else (let z22 := F_find s 4; z22)) else (let z23 := F_find s 1; z23))) else (((-2), s))) (by first | (dsimp only [F_ccopy_22]; done) | (dsimp only; done) | rfl) (fun cc => ?_) (fun cc => ?_)
  · skip
    refine UP.ifT rfl cc ?_
    refine UP.stp 1 (i1 := 9) (L1 := [some (.ref 0), some (.int 2), some (.int i), some (.int 2), some (.int j), some (.int n), none, none]) (st1 := [.int (-2)]) (s1 := s) rfl ?_
    exact UP.ret (r := some (.int (-2))) rfl ⟨by first | (dsimp only [F_ccopy_22]; done) | (dsimp only; done) | rfl, by first | (dsimp only [F_ccopy_22]; done) | (dsimp only; done) | rfl⟩
  · skip
    refine UP.ifF rfl cc ?_
    refine UP.stp 2 (i1 := 6) (L1 := [some (.ref 0), some (.int 2), some (.int i), some (.int 2), some (.int j), some (.int n), none, none]) (st1 := [.int 4, .int 2]) (s1 := s) rfl ?_
    refine UP.cI (M1 := m_X6_isBelow) (as := [.int 2, .int 4]) (rest := []) (T := F_isBelow s 2 4) rfl rfl (ux_isBelow s 2 4) ?_
    refine UP.spl (m_cmp .ne (F_isBelow s 2 4) 0) (bif m_cmp .ne (s 119 1) 0 then (let z9 := F_find s 1; z9) else (bif m_cmp .eq (s 119 1) 0 then (bif m_cmp .eq (s 119 2) (s 119 2) then (bif m_cmp .eq (F_hasRange_2 s i n) 0 then (let z17 := F_find s 2; z17) else (bif m_cmp .ne (F_hasRange_2 s j n) 0 then ((1, (mvs s 120 i.toNatClampNeg 120 j.toNatClampNeg n.toNatClampNeg))) else (let z21 := F_find s 2; z21))) else (let z22 := F_find s 4; z22)) else (let z23 := F_find s 1; z23))) (((-2), s)) (by first | (dsimp only [F_ccopy_22]; done) | (dsimp only; done) | rfl) (fun cc => ?_) (fun cc => ?_)
    · skip
      refine UP.ifT rfl cc ?_
      refine UP.stp 3 (i1 := 13) (L1 := [some (.ref 0), some (.int 2), some (.int i), some (.int 2), some (.int j), some (.int n), none, none]) (st1 := [.int 2, .ref 9]) (s1 := s) rfl ?_
      refine UP.aald (e := 2) (r := 119) rfl rfl (by omega) rfl ?_
      refine UP.stp 4 (i1 := 18) (L1 := [some (.ref 0), some (.int 2), some (.int i), some (.int 2), some (.int j), some (.int n), some (.ref 119), none]) (st1 := [.int 2, .ref 9]) (s1 := s) rfl ?_
      refine UP.aald (e := 2) (r := 119) rfl rfl (by omega) rfl ?_
      refine UP.stp 3 (i1 := 22) (L1 := [some (.ref 0), some (.int 2), some (.int i), some (.int 2), some (.int j), some (.int n), some (.ref 119), some (.ref 119)]) (st1 := [.int (s 119 1)]) (s1 := s) rfl ?_
      refine UP.spl (m_cmp .ne (s 119 1) 0) (let z9 := F_find s 1; z9) (bif m_cmp .eq (s 119 1) 0 then (bif m_cmp .eq (s 119 2) (s 119 2) then (bif m_cmp .eq (F_hasRange_2 s i n) 0 then (let z17 := F_find s 2; z17) else (bif m_cmp .ne (F_hasRange_2 s j n) 0 then ((1, (mvs s 120 i.toNatClampNeg 120 j.toNatClampNeg n.toNatClampNeg))) else (let z21 := F_find s 2; z21))) else (let z22 := F_find s 4; z22)) else (let z23 := F_find s 1; z23)) (by first | (dsimp only [F_ccopy_22]; done) | (dsimp only; done) | rfl) (fun cc => ?_) (fun cc => ?_)
      · skip
        refine UP.ifT rfl cc ?_
        refine UP.stp 2 (i1 := 28) (L1 := [some (.ref 0), some (.int 2), some (.int i), some (.int 2), some (.int j), some (.int n), some (.ref 119), some (.ref 119)]) (st1 := [.int 1, .ref 0]) (s1 := s) rfl ?_
        refine UP.cB (M1 := m_X6_find) (as := [.ref 0, .int 1]) (rest := []) (T := F_find s 1) rfl rfl (ux_find s 1) (fun z9 e9 => ?_)
        exact UP.ret (r := some (.int z9.1)) rfl ⟨by subst e9; first | (dsimp only [F_ccopy_22]; done) | (dsimp only; done) | rfl, by subst e9; first | (dsimp only [F_ccopy_22]; done) | (dsimp only; done) | rfl⟩
      · skip
        refine UP.ifF rfl cc ?_
        refine UP.stp 2 (i1 := 25) (L1 := [some (.ref 0), some (.int 2), some (.int i), some (.int 2), some (.int j), some (.int n), some (.ref 119), some (.ref 119)]) (st1 := [.int (s 119 1)]) (s1 := s) rfl ?_
        refine UP.spl (m_cmp .eq (s 119 1) 0) (bif m_cmp .eq (s 119 2) (s 119 2) then (bif m_cmp .eq (F_hasRange_2 s i n) 0 then (let z17 := F_find s 2; z17) else (bif m_cmp .ne (F_hasRange_2 s j n) 0 then ((1, (mvs s 120 i.toNatClampNeg 120 j.toNatClampNeg n.toNatClampNeg))) else (let z21 := F_find s 2; z21))) else (let z22 := F_find s 4; z22)) (let z23 := F_find s 1; z23) (by first | (dsimp only [F_ccopy_22]; done) | (dsimp only; done) | rfl) (fun cc => ?_) (fun cc => ?_)
        · skip
          refine UP.ifT rfl cc ?_
          refine UP.stp 4 (i1 := 34) (L1 := [some (.ref 0), some (.int 2), some (.int i), some (.int 2), some (.int j), some (.int n), some (.ref 119), some (.ref 119)]) (st1 := [.int (s 119 2), .int (s 119 2)]) (s1 := s) rfl ?_
          refine UP.spl (m_cmp .eq (s 119 2) (s 119 2)) (bif m_cmp .eq (F_hasRange_2 s i n) 0 then (let z17 := F_find s 2; z17) else (bif m_cmp .ne (F_hasRange_2 s j n) 0 then ((1, (mvs s 120 i.toNatClampNeg 120 j.toNatClampNeg n.toNatClampNeg))) else (let z21 := F_find s 2; z21))) (let z22 := F_find s 4; z22) (by first | (dsimp only [F_ccopy_22]; done) | (dsimp only; done) | rfl) (fun cc => ?_) (fun cc => ?_)
          · skip
            refine UP.icT rfl cc ?_
            refine UP.stp 3 (i1 := 42) (L1 := [some (.ref 0), some (.int 2), some (.int i), some (.int 2), some (.int j), some (.int n), some (.ref 119), some (.ref 119)]) (st1 := [.int n, .int i, .ref 119]) (s1 := s) rfl ?_
            refine UP.cI (M1 := m_X3_hasRange) (as := [.ref 119, .int i, .int n]) (rest := []) (T := F_hasRange_2 s i n) rfl rfl (ux_hasRange_2 s i n) ?_
            refine UP.spl (m_cmp .eq (F_hasRange_2 s i n) 0) (let z17 := F_find s 2; z17) (bif m_cmp .ne (F_hasRange_2 s j n) 0 then ((1, (mvs s 120 i.toNatClampNeg 120 j.toNatClampNeg n.toNatClampNeg))) else (let z21 := F_find s 2; z21)) (by first | (dsimp only [F_ccopy_22]; done) | (dsimp only; done) | rfl) (fun cc => ?_) (fun cc => ?_)
            · skip
              refine UP.ifT rfl cc ?_
              refine UP.stp 2 (i1 := 51) (L1 := [some (.ref 0), some (.int 2), some (.int i), some (.int 2), some (.int j), some (.int n), some (.ref 119), some (.ref 119)]) (st1 := [.int 2, .ref 0]) (s1 := s) rfl ?_
              refine UP.cB (M1 := m_X6_find) (as := [.ref 0, .int 2]) (rest := []) (T := F_find s 2) rfl rfl (ux_find s 2) (fun z17 e17 => ?_)
              exact UP.ret (r := some (.int z17.1)) rfl ⟨by subst e17; first | (dsimp only [F_ccopy_22]; done) | (dsimp only; done) | rfl, by subst e17; first | (dsimp only [F_ccopy_22]; done) | (dsimp only; done) | rfl⟩
            · skip
              refine UP.ifF rfl cc ?_
              refine UP.stp 3 (i1 := 47) (L1 := [some (.ref 0), some (.int 2), some (.int i), some (.int 2), some (.int j), some (.int n), some (.ref 119), some (.ref 119)]) (st1 := [.int n, .int j, .ref 119]) (s1 := s) rfl ?_
              refine UP.cI (M1 := m_X3_hasRange) (as := [.ref 119, .int j, .int n]) (rest := []) (T := F_hasRange_2 s j n) rfl rfl (ux_hasRange_2 s j n) ?_
              refine UP.spl (m_cmp .ne (F_hasRange_2 s j n) 0) ((1, (mvs s 120 i.toNatClampNeg 120 j.toNatClampNeg n.toNatClampNeg))) (let z21 := F_find s 2; z21) (by first | (dsimp only [F_ccopy_22]; done) | (dsimp only; done) | rfl) (fun cc => ?_) (fun cc => ?_)
              · skip
                refine UP.ifT rfl cc ?_
                refine UP.stp 9 (i1 := 62) (L1 := [some (.ref 0), some (.int 2), some (.int i), some (.int 2), some (.int j), some (.int n), some (.ref 119), some (.ref 119)]) (st1 := [.int 1]) (s1 := (mvs s 120 i.toNatClampNeg 120 j.toNatClampNeg n.toNatClampNeg)) rfl ?_
                exact UP.ret (r := some (.int 1)) rfl ⟨by first | (dsimp only [F_ccopy_22]; done) | (dsimp only; done) | rfl, by first | (dsimp only [F_ccopy_22]; done) | (dsimp only; done) | rfl⟩
              · skip
                refine UP.ifF rfl cc ?_
                refine UP.stp 2 (i1 := 51) (L1 := [some (.ref 0), some (.int 2), some (.int i), some (.int 2), some (.int j), some (.int n), some (.ref 119), some (.ref 119)]) (st1 := [.int 2, .ref 0]) (s1 := s) rfl ?_
                refine UP.cB (M1 := m_X6_find) (as := [.ref 0, .int 2]) (rest := []) (T := F_find s 2) rfl rfl (ux_find s 2) (fun z21 e21 => ?_)
                exact UP.ret (r := some (.int z21.1)) rfl ⟨by subst e21; first | (dsimp only [F_ccopy_22]; done) | (dsimp only; done) | rfl, by subst e21; first | (dsimp only [F_ccopy_22]; done) | (dsimp only; done) | rfl⟩
          · skip
            refine UP.icF rfl cc ?_
            refine UP.stp 2 (i1 := 37) (L1 := [some (.ref 0), some (.int 2), some (.int i), some (.int 2), some (.int j), some (.int n), some (.ref 119), some (.ref 119)]) (st1 := [.int 4, .ref 0]) (s1 := s) rfl ?_
            refine UP.cB (M1 := m_X6_find) (as := [.ref 0, .int 4]) (rest := []) (T := F_find s 4) rfl rfl (ux_find s 4) (fun z22 e22 => ?_)
            exact UP.ret (r := some (.int z22.1)) rfl ⟨by subst e22; first | (dsimp only [F_ccopy_22]; done) | (dsimp only; done) | rfl, by subst e22; first | (dsimp only [F_ccopy_22]; done) | (dsimp only; done) | rfl⟩
        · skip
          refine UP.ifF rfl cc ?_
          refine UP.stp 2 (i1 := 28) (L1 := [some (.ref 0), some (.int 2), some (.int i), some (.int 2), some (.int j), some (.int n), some (.ref 119), some (.ref 119)]) (st1 := [.int 1, .ref 0]) (s1 := s) rfl ?_
          refine UP.cB (M1 := m_X6_find) (as := [.ref 0, .int 1]) (rest := []) (T := F_find s 1) rfl rfl (ux_find s 1) (fun z23 e23 => ?_)
          exact UP.ret (r := some (.int z23.1)) rfl ⟨by subst e23; first | (dsimp only [F_ccopy_22]; done) | (dsimp only; done) | rfl, by subst e23; first | (dsimp only [F_ccopy_22]; done) | (dsimp only; done) | rfl⟩
    · skip
      refine UP.ifF rfl cc ?_
      refine UP.stp 1 (i1 := 9) (L1 := [some (.ref 0), some (.int 2), some (.int i), some (.int 2), some (.int j), some (.int n), none, none]) (st1 := [.int (-2)]) (s1 := s) rfl ?_
      exact UP.ret (r := some (.int (-2))) rfl ⟨by first | (dsimp only [F_ccopy_22]; done) | (dsimp only; done) | rfl, by first | (dsimp only [F_ccopy_22]; done) | (dsimp only; done) | rfl⟩
end
section
def W_ccopy_23 : List (Nat × Nat × Option Nat) := [(122, 122, none), (0, 0, some 4)]
def F_ccopy_23 (s : SG) (i : Int32) (j : Int32) (n : Int32) : Int32 × SG := bif m_cmp .eq (F_isBelow s 2 4) 0 then (((-2), s)) else (bif m_cmp .ne (F_isBelow s 3 4) 0 then (bif m_cmp .ne (s 119 1) 0 then (let z9 := F_find s 1; z9) else (bif m_cmp .eq (s 121 1) 0 then (bif m_cmp .eq (s 119 2) (s 121 2) then (bif m_cmp .eq (F_hasRange_2 s i n) 0 then (let z17 := F_find s 2; z17) else (bif m_cmp .ne (F_hasRange_3 s j n) 0 then ((1, (mvs s 120 i.toNatClampNeg 122 j.toNatClampNeg n.toNatClampNeg))) else (let z21 := F_find s 2; z21))) else (let z22 := F_find s 4; z22)) else (let z23 := F_find s 1; z23))) else (((-2), s)))
set_option maxRecDepth 20000 in
set_option maxHeartbeats 200000 in
theorem fr_ccopy_23 (s : SG) (i : Int32) (j : Int32) (n : Int32)  : Fr W_ccopy_23 s (F_ccopy_23 s i j n).2 := by dsimp only [F_ccopy_23]; exact (Fr.bifp (b := m_cmp .eq (F_isBelow s 2 4) 0) (x := ((-2), s)) (y := bif m_cmp .ne (F_isBelow s 3 4) 0 then (bif m_cmp .ne (s 119 1) 0 then (let z9 := F_find s 1; z9) else (bif m_cmp .eq (s 121 1) 0 then (bif m_cmp .eq (s 119 2) (s 121 2) then (bif m_cmp .eq (F_hasRange_2 s i n) 0 then (let z17 := F_find s 2; z17) else (bif m_cmp .ne (F_hasRange_3 s j n) 0 then ((1, (mvs s 120 i.toNatClampNeg 122 j.toNatClampNeg n.toNatClampNeg))) else (let z21 := F_find s 2; z21))) else (let z22 := F_find s 4; z22)) else (let z23 := F_find s 1; z23))) else (((-2), s))) (fun x : Int32 × SG => x.2) (by (try dsimp only); exact (Fr.rf _ _)) (by (try dsimp only); exact (Fr.bifp (b := m_cmp .ne (F_isBelow s 3 4) 0) (x := bif m_cmp .ne (s 119 1) 0 then (let z9 := F_find s 1; z9) else (bif m_cmp .eq (s 121 1) 0 then (bif m_cmp .eq (s 119 2) (s 121 2) then (bif m_cmp .eq (F_hasRange_2 s i n) 0 then (let z17 := F_find s 2; z17) else (bif m_cmp .ne (F_hasRange_3 s j n) 0 then ((1, (mvs s 120 i.toNatClampNeg 122 j.toNatClampNeg n.toNatClampNeg))) else (let z21 := F_find s 2; z21))) else (let z22 := F_find s 4; z22)) else (let z23 := F_find s 1; z23))) (y := ((-2), s)) (fun x : Int32 × SG => x.2) (by (try dsimp only); exact (Fr.bifp (b := m_cmp .ne (s 119 1) 0) (x := let z9 := F_find s 1; z9) (y := bif m_cmp .eq (s 121 1) 0 then (bif m_cmp .eq (s 119 2) (s 121 2) then (bif m_cmp .eq (F_hasRange_2 s i n) 0 then (let z17 := F_find s 2; z17) else (bif m_cmp .ne (F_hasRange_3 s j n) 0 then ((1, (mvs s 120 i.toNatClampNeg 122 j.toNatClampNeg n.toNatClampNeg))) else (let z21 := F_find s 2; z21))) else (let z22 := F_find s 4; z22)) else (let z23 := F_find s 1; z23)) (fun x : Int32 × SG => x.2) (by (try dsimp only); exact (Fr.tr (s1 := s) (Fr.rf _ _) (Fr.wk (W2 := W_ccopy_23) (fr_find s 1) (by rfl)))) (by (try dsimp only); exact (Fr.bifp (b := m_cmp .eq (s 121 1) 0) (x := bif m_cmp .eq (s 119 2) (s 121 2) then (bif m_cmp .eq (F_hasRange_2 s i n) 0 then (let z17 := F_find s 2; z17) else (bif m_cmp .ne (F_hasRange_3 s j n) 0 then ((1, (mvs s 120 i.toNatClampNeg 122 j.toNatClampNeg n.toNatClampNeg))) else (let z21 := F_find s 2; z21))) else (let z22 := F_find s 4; z22)) (y := let z23 := F_find s 1; z23) (fun x : Int32 × SG => x.2) (by (try dsimp only); exact (Fr.bifp (b := m_cmp .eq (s 119 2) (s 121 2)) (x := bif m_cmp .eq (F_hasRange_2 s i n) 0 then (let z17 := F_find s 2; z17) else (bif m_cmp .ne (F_hasRange_3 s j n) 0 then ((1, (mvs s 120 i.toNatClampNeg 122 j.toNatClampNeg n.toNatClampNeg))) else (let z21 := F_find s 2; z21))) (y := let z22 := F_find s 4; z22) (fun x : Int32 × SG => x.2) (by (try dsimp only); exact (Fr.bifp (b := m_cmp .eq (F_hasRange_2 s i n) 0) (x := let z17 := F_find s 2; z17) (y := bif m_cmp .ne (F_hasRange_3 s j n) 0 then ((1, (mvs s 120 i.toNatClampNeg 122 j.toNatClampNeg n.toNatClampNeg))) else (let z21 := F_find s 2; z21)) (fun x : Int32 × SG => x.2) (by (try dsimp only); exact (Fr.tr (s1 := s) (Fr.rf _ _) (Fr.wk (W2 := W_ccopy_23) (fr_find s 2) (by rfl)))) (by (try dsimp only); exact (Fr.bifp (b := m_cmp .ne (F_hasRange_3 s j n) 0) (x := (1, (mvs s 120 i.toNatClampNeg 122 j.toNatClampNeg n.toNatClampNeg))) (y := let z21 := F_find s 2; z21) (fun x : Int32 × SG => x.2) (by (try dsimp only); exact (Fr.mvs (by rfl) (Fr.rf _ _))) (by (try dsimp only); exact (Fr.tr (s1 := s) (Fr.rf _ _) (Fr.wk (W2 := W_ccopy_23) (fr_find s 2) (by rfl)))))))) (by (try dsimp only); exact (Fr.tr (s1 := s) (Fr.rf _ _) (Fr.wk (W2 := W_ccopy_23) (fr_find s 4) (by rfl)))))) (by (try dsimp only); exact (Fr.tr (s1 := s) (Fr.rf _ _) (Fr.wk (W2 := W_ccopy_23) (fr_find s 1) (by rfl)))))))) (by (try dsimp only); exact (Fr.rf _ _)))))
set_option maxRecDepth 20000 in
set_option maxHeartbeats 200000 in
theorem ux_ccopy_23 (s : SG) (i : Int32) (j : Int32) (n : Int32)  : UP m_X6_copy 0 (m_ent 8 [.ref 0, .int 2, .int i, .int 3, .int j, .int n]) [] s (Qb (F_ccopy_23 s i j n)) := by
  refine UP.stp 2 (i1 := 2) (L1 := [some (.ref 0), some (.int 2), some (.int i), some (.int 3), some (.int j), some (.int n), none, none]) (st1 := [.int 4, .int 2]) (s1 := s) rfl ?_
  refine UP.cI (M1 := m_X6_isBelow) (as := [.int 2, .int 4]) (rest := []) (T := F_isBelow s 2 4) rfl rfl (ux_isBelow s 2 4) ?_
  refine UP.spl (m_cmp .eq (F_isBelow s 2 4) 0) (((-2), s)) (bif m_cmp .ne (F_isBelow s 3 4) 0 then (bif m_cmp .ne (s 119 1) 0 then (let z9 := F_find s 1; z9) else (bif m_cmp .eq (s 121 1) 0 then (bif m_cmp .eq (s 119 2) (s 121 2) then (bif m_cmp .eq (F_hasRange_2 s i n) 0 then (let z17 := F_find s 2; z17) else (bif m_cmp .ne (F_hasRange_3 s j n) 0 then ((1, (mvs s 120 i.toNatClampNeg 122 j.toNatClampNeg n.toNatClampNeg))) else (let z21 := F_find s 2; z21))) else (let z22 := F_find s 4; z22)) else (let z23 := F_find s 1; z23))) else (((-2), s))) (by first | (dsimp only [F_ccopy_23]; done) | (dsimp only; done) | rfl) (fun cc => ?_) (fun cc => ?_)
  · skip
    refine UP.ifT rfl cc ?_
    refine UP.stp 1 (i1 := 9) (L1 := [some (.ref 0), some (.int 2), some (.int i), some (.int 3), some (.int j), some (.int n), none, none]) (st1 := [.int (-2)]) (s1 := s) rfl ?_
    exact UP.ret (r := some (.int (-2))) rfl ⟨by first | (dsimp only [F_ccopy_23]; done) | (dsimp only; done) | rfl, by first | (dsimp only [F_ccopy_23]; done) | (dsimp only; done) | rfl⟩
  · skip
    refine UP.ifF rfl cc ?_
    refine UP.stp 2 (i1 := 6) (L1 := [some (.ref 0), some (.int 2), some (.int i), some (.int 3), some (.int j), some (.int n), none, none]) (st1 := [.int 4, .int 3]) (s1 := s) rfl ?_
    refine UP.cI (M1 := m_X6_isBelow) (as := [.int 3, .int 4]) (rest := []) (T := F_isBelow s 3 4) rfl rfl (ux_isBelow s 3 4) ?_
    refine UP.spl (m_cmp .ne (F_isBelow s 3 4) 0) (bif m_cmp .ne (s 119 1) 0 then (let z9 := F_find s 1; z9) else (bif m_cmp .eq (s 121 1) 0 then (bif m_cmp .eq (s 119 2) (s 121 2) then (bif m_cmp .eq (F_hasRange_2 s i n) 0 then (let z17 := F_find s 2; z17) else (bif m_cmp .ne (F_hasRange_3 s j n) 0 then ((1, (mvs s 120 i.toNatClampNeg 122 j.toNatClampNeg n.toNatClampNeg))) else (let z21 := F_find s 2; z21))) else (let z22 := F_find s 4; z22)) else (let z23 := F_find s 1; z23))) (((-2), s)) (by first | (dsimp only [F_ccopy_23]; done) | (dsimp only; done) | rfl) (fun cc => ?_) (fun cc => ?_)
    · skip
      refine UP.ifT rfl cc ?_
      refine UP.stp 3 (i1 := 13) (L1 := [some (.ref 0), some (.int 2), some (.int i), some (.int 3), some (.int j), some (.int n), none, none]) (st1 := [.int 2, .ref 9]) (s1 := s) rfl ?_
      refine UP.aald (e := 2) (r := 119) rfl rfl (by omega) rfl ?_
      refine UP.stp 4 (i1 := 18) (L1 := [some (.ref 0), some (.int 2), some (.int i), some (.int 3), some (.int j), some (.int n), some (.ref 119), none]) (st1 := [.int 3, .ref 9]) (s1 := s) rfl ?_
      refine UP.aald (e := 3) (r := 121) rfl rfl (by omega) rfl ?_
      refine UP.stp 3 (i1 := 22) (L1 := [some (.ref 0), some (.int 2), some (.int i), some (.int 3), some (.int j), some (.int n), some (.ref 119), some (.ref 121)]) (st1 := [.int (s 119 1)]) (s1 := s) rfl ?_
      refine UP.spl (m_cmp .ne (s 119 1) 0) (let z9 := F_find s 1; z9) (bif m_cmp .eq (s 121 1) 0 then (bif m_cmp .eq (s 119 2) (s 121 2) then (bif m_cmp .eq (F_hasRange_2 s i n) 0 then (let z17 := F_find s 2; z17) else (bif m_cmp .ne (F_hasRange_3 s j n) 0 then ((1, (mvs s 120 i.toNatClampNeg 122 j.toNatClampNeg n.toNatClampNeg))) else (let z21 := F_find s 2; z21))) else (let z22 := F_find s 4; z22)) else (let z23 := F_find s 1; z23)) (by first | (dsimp only [F_ccopy_23]; done) | (dsimp only; done) | rfl) (fun cc => ?_) (fun cc => ?_)
      · skip
        refine UP.ifT rfl cc ?_
        refine UP.stp 2 (i1 := 28) (L1 := [some (.ref 0), some (.int 2), some (.int i), some (.int 3), some (.int j), some (.int n), some (.ref 119), some (.ref 121)]) (st1 := [.int 1, .ref 0]) (s1 := s) rfl ?_
        refine UP.cB (M1 := m_X6_find) (as := [.ref 0, .int 1]) (rest := []) (T := F_find s 1) rfl rfl (ux_find s 1) (fun z9 e9 => ?_)
        exact UP.ret (r := some (.int z9.1)) rfl ⟨by subst e9; first | (dsimp only [F_ccopy_23]; done) | (dsimp only; done) | rfl, by subst e9; first | (dsimp only [F_ccopy_23]; done) | (dsimp only; done) | rfl⟩
      · skip
        refine UP.ifF rfl cc ?_
        refine UP.stp 2 (i1 := 25) (L1 := [some (.ref 0), some (.int 2), some (.int i), some (.int 3), some (.int j), some (.int n), some (.ref 119), some (.ref 121)]) (st1 := [.int (s 121 1)]) (s1 := s) rfl ?_
        refine UP.spl (m_cmp .eq (s 121 1) 0) (bif m_cmp .eq (s 119 2) (s 121 2) then (bif m_cmp .eq (F_hasRange_2 s i n) 0 then (let z17 := F_find s 2; z17) else (bif m_cmp .ne (F_hasRange_3 s j n) 0 then ((1, (mvs s 120 i.toNatClampNeg 122 j.toNatClampNeg n.toNatClampNeg))) else (let z21 := F_find s 2; z21))) else (let z22 := F_find s 4; z22)) (let z23 := F_find s 1; z23) (by first | (dsimp only [F_ccopy_23]; done) | (dsimp only; done) | rfl) (fun cc => ?_) (fun cc => ?_)
        · skip
          refine UP.ifT rfl cc ?_
          refine UP.stp 4 (i1 := 34) (L1 := [some (.ref 0), some (.int 2), some (.int i), some (.int 3), some (.int j), some (.int n), some (.ref 119), some (.ref 121)]) (st1 := [.int (s 121 2), .int (s 119 2)]) (s1 := s) rfl ?_
          refine UP.spl (m_cmp .eq (s 119 2) (s 121 2)) (bif m_cmp .eq (F_hasRange_2 s i n) 0 then (let z17 := F_find s 2; z17) else (bif m_cmp .ne (F_hasRange_3 s j n) 0 then ((1, (mvs s 120 i.toNatClampNeg 122 j.toNatClampNeg n.toNatClampNeg))) else (let z21 := F_find s 2; z21))) (let z22 := F_find s 4; z22) (by first | (dsimp only [F_ccopy_23]; done) | (dsimp only; done) | rfl) (fun cc => ?_) (fun cc => ?_)
          · skip
            refine UP.icT rfl cc ?_
            refine UP.stp 3 (i1 := 42) (L1 := [some (.ref 0), some (.int 2), some (.int i), some (.int 3), some (.int j), some (.int n), some (.ref 119), some (.ref 121)]) (st1 := [.int n, .int i, .ref 119]) (s1 := s) rfl ?_
            refine UP.cI (M1 := m_X3_hasRange) (as := [.ref 119, .int i, .int n]) (rest := []) (T := F_hasRange_2 s i n) rfl rfl (ux_hasRange_2 s i n) ?_
            refine UP.spl (m_cmp .eq (F_hasRange_2 s i n) 0) (let z17 := F_find s 2; z17) (bif m_cmp .ne (F_hasRange_3 s j n) 0 then ((1, (mvs s 120 i.toNatClampNeg 122 j.toNatClampNeg n.toNatClampNeg))) else (let z21 := F_find s 2; z21)) (by first | (dsimp only [F_ccopy_23]; done) | (dsimp only; done) | rfl) (fun cc => ?_) (fun cc => ?_)
            · skip
              refine UP.ifT rfl cc ?_
              refine UP.stp 2 (i1 := 51) (L1 := [some (.ref 0), some (.int 2), some (.int i), some (.int 3), some (.int j), some (.int n), some (.ref 119), some (.ref 121)]) (st1 := [.int 2, .ref 0]) (s1 := s) rfl ?_
              refine UP.cB (M1 := m_X6_find) (as := [.ref 0, .int 2]) (rest := []) (T := F_find s 2) rfl rfl (ux_find s 2) (fun z17 e17 => ?_)
              exact UP.ret (r := some (.int z17.1)) rfl ⟨by subst e17; first | (dsimp only [F_ccopy_23]; done) | (dsimp only; done) | rfl, by subst e17; first | (dsimp only [F_ccopy_23]; done) | (dsimp only; done) | rfl⟩
            · skip
              refine UP.ifF rfl cc ?_
              refine UP.stp 3 (i1 := 47) (L1 := [some (.ref 0), some (.int 2), some (.int i), some (.int 3), some (.int j), some (.int n), some (.ref 119), some (.ref 121)]) (st1 := [.int n, .int j, .ref 121]) (s1 := s) rfl ?_
              refine UP.cI (M1 := m_X3_hasRange) (as := [.ref 121, .int j, .int n]) (rest := []) (T := F_hasRange_3 s j n) rfl rfl (ux_hasRange_3 s j n) ?_
              refine UP.spl (m_cmp .ne (F_hasRange_3 s j n) 0) ((1, (mvs s 120 i.toNatClampNeg 122 j.toNatClampNeg n.toNatClampNeg))) (let z21 := F_find s 2; z21) (by first | (dsimp only [F_ccopy_23]; done) | (dsimp only; done) | rfl) (fun cc => ?_) (fun cc => ?_)
              · skip
                refine UP.ifT rfl cc ?_
                refine UP.stp 9 (i1 := 62) (L1 := [some (.ref 0), some (.int 2), some (.int i), some (.int 3), some (.int j), some (.int n), some (.ref 119), some (.ref 121)]) (st1 := [.int 1]) (s1 := (mvs s 120 i.toNatClampNeg 122 j.toNatClampNeg n.toNatClampNeg)) rfl ?_
                exact UP.ret (r := some (.int 1)) rfl ⟨by first | (dsimp only [F_ccopy_23]; done) | (dsimp only; done) | rfl, by first | (dsimp only [F_ccopy_23]; done) | (dsimp only; done) | rfl⟩
              · skip
                refine UP.ifF rfl cc ?_
                refine UP.stp 2 (i1 := 51) (L1 := [some (.ref 0), some (.int 2), some (.int i), some (.int 3), some (.int j), some (.int n), some (.ref 119), some (.ref 121)]) (st1 := [.int 2, .ref 0]) (s1 := s) rfl ?_
                refine UP.cB (M1 := m_X6_find) (as := [.ref 0, .int 2]) (rest := []) (T := F_find s 2) rfl rfl (ux_find s 2) (fun z21 e21 => ?_)
                exact UP.ret (r := some (.int z21.1)) rfl ⟨by subst e21; first | (dsimp only [F_ccopy_23]; done) | (dsimp only; done) | rfl, by subst e21; first | (dsimp only [F_ccopy_23]; done) | (dsimp only; done) | rfl⟩
          · skip
            refine UP.icF rfl cc ?_
            refine UP.stp 2 (i1 := 37) (L1 := [some (.ref 0), some (.int 2), some (.int i), some (.int 3), some (.int j), some (.int n), some (.ref 119), some (.ref 121)]) (st1 := [.int 4, .ref 0]) (s1 := s) rfl ?_
            refine UP.cB (M1 := m_X6_find) (as := [.ref 0, .int 4]) (rest := []) (T := F_find s 4) rfl rfl (ux_find s 4) (fun z22 e22 => ?_)
            exact UP.ret (r := some (.int z22.1)) rfl ⟨by subst e22; first | (dsimp only [F_ccopy_23]; done) | (dsimp only; done) | rfl, by subst e22; first | (dsimp only [F_ccopy_23]; done) | (dsimp only; done) | rfl⟩
        · skip
          refine UP.ifF rfl cc ?_
          refine UP.stp 2 (i1 := 28) (L1 := [some (.ref 0), some (.int 2), some (.int i), some (.int 3), some (.int j), some (.int n), some (.ref 119), some (.ref 121)]) (st1 := [.int 1, .ref 0]) (s1 := s) rfl ?_
          refine UP.cB (M1 := m_X6_find) (as := [.ref 0, .int 1]) (rest := []) (T := F_find s 1) rfl rfl (ux_find s 1) (fun z23 e23 => ?_)
          exact UP.ret (r := some (.int z23.1)) rfl ⟨by subst e23; first | (dsimp only [F_ccopy_23]; done) | (dsimp only; done) | rfl, by subst e23; first | (dsimp only [F_ccopy_23]; done) | (dsimp only; done) | rfl⟩
    · skip
      refine UP.ifF rfl cc ?_
      refine UP.stp 1 (i1 := 9) (L1 := [some (.ref 0), some (.int 2), some (.int i), some (.int 3), some (.int j), some (.int n), none, none]) (st1 := [.int (-2)]) (s1 := s) rfl ?_
      exact UP.ret (r := some (.int (-2))) rfl ⟨by first | (dsimp only [F_ccopy_23]; done) | (dsimp only; done) | rfl, by first | (dsimp only [F_ccopy_23]; done) | (dsimp only; done) | rfl⟩
end
section
def W_ccopy_30 : List (Nat × Nat × Option Nat) := [(116, 116, none), (0, 0, some 4)]
def F_ccopy_30 (s : SG) (i : Int32) (j : Int32) (n : Int32) : Int32 × SG := bif m_cmp .eq (F_isBelow s 3 4) 0 then (((-2), s)) else (bif m_cmp .ne (F_isBelow s 0 4) 0 then (bif m_cmp .ne (s 121 1) 0 then (let z9 := F_find s 1; z9) else (bif m_cmp .eq (s 115 1) 0 then (bif m_cmp .eq (s 121 2) (s 115 2) then (bif m_cmp .eq (F_hasRange_3 s i n) 0 then (let z17 := F_find s 2; z17) else (bif m_cmp .ne (F_hasRange_0 s j n) 0 then ((1, (mvs s 122 i.toNatClampNeg 116 j.toNatClampNeg n.toNatClampNeg))) else (let z21 := F_find s 2; z21))) else (let z22 := F_find s 4; z22)) else (let z23 := F_find s 1; z23))) else (((-2), s)))
set_option maxRecDepth 20000 in
set_option maxHeartbeats 200000 in
theorem fr_ccopy_30 (s : SG) (i : Int32) (j : Int32) (n : Int32)  : Fr W_ccopy_30 s (F_ccopy_30 s i j n).2 := by dsimp only [F_ccopy_30]; exact (Fr.bifp (b := m_cmp .eq (F_isBelow s 3 4) 0) (x := ((-2), s)) (y := bif m_cmp .ne (F_isBelow s 0 4) 0 then (bif m_cmp .ne (s 121 1) 0 then (let z9 := F_find s 1; z9) else (bif m_cmp .eq (s 115 1) 0 then (bif m_cmp .eq (s 121 2) (s 115 2) then (bif m_cmp .eq (F_hasRange_3 s i n) 0 then (let z17 := F_find s 2; z17) else (bif m_cmp .ne (F_hasRange_0 s j n) 0 then ((1, (mvs s 122 i.toNatClampNeg 116 j.toNatClampNeg n.toNatClampNeg))) else (let z21 := F_find s 2; z21))) else (let z22 := F_find s 4; z22)) else (let z23 := F_find s 1; z23))) else (((-2), s))) (fun x : Int32 × SG => x.2) (by (try dsimp only); exact (Fr.rf _ _)) (by (try dsimp only); exact (Fr.bifp (b := m_cmp .ne (F_isBelow s 0 4) 0) (x := bif m_cmp .ne (s 121 1) 0 then (let z9 := F_find s 1; z9) else (bif m_cmp .eq (s 115 1) 0 then (bif m_cmp .eq (s 121 2) (s 115 2) then (bif m_cmp .eq (F_hasRange_3 s i n) 0 then (let z17 := F_find s 2; z17) else (bif m_cmp .ne (F_hasRange_0 s j n) 0 then ((1, (mvs s 122 i.toNatClampNeg 116 j.toNatClampNeg n.toNatClampNeg))) else (let z21 := F_find s 2; z21))) else (let z22 := F_find s 4; z22)) else (let z23 := F_find s 1; z23))) (y := ((-2), s)) (fun x : Int32 × SG => x.2) (by (try dsimp only); exact (Fr.bifp (b := m_cmp .ne (s 121 1) 0) (x := let z9 := F_find s 1; z9) (y := bif m_cmp .eq (s 115 1) 0 then (bif m_cmp .eq (s 121 2) (s 115 2) then (bif m_cmp .eq (F_hasRange_3 s i n) 0 then (let z17 := F_find s 2; z17) else (bif m_cmp .ne (F_hasRange_0 s j n) 0 then ((1, (mvs s 122 i.toNatClampNeg 116 j.toNatClampNeg n.toNatClampNeg))) else (let z21 := F_find s 2; z21))) else (let z22 := F_find s 4; z22)) else (let z23 := F_find s 1; z23)) (fun x : Int32 × SG => x.2) (by (try dsimp only); exact (Fr.tr (s1 := s) (Fr.rf _ _) (Fr.wk (W2 := W_ccopy_30) (fr_find s 1) (by rfl)))) (by (try dsimp only); exact (Fr.bifp (b := m_cmp .eq (s 115 1) 0) (x := bif m_cmp .eq (s 121 2) (s 115 2) then (bif m_cmp .eq (F_hasRange_3 s i n) 0 then (let z17 := F_find s 2; z17) else (bif m_cmp .ne (F_hasRange_0 s j n) 0 then ((1, (mvs s 122 i.toNatClampNeg 116 j.toNatClampNeg n.toNatClampNeg))) else (let z21 := F_find s 2; z21))) else (let z22 := F_find s 4; z22)) (y := let z23 := F_find s 1; z23) (fun x : Int32 × SG => x.2) (by (try dsimp only); exact (Fr.bifp (b := m_cmp .eq (s 121 2) (s 115 2)) (x := bif m_cmp .eq (F_hasRange_3 s i n) 0 then (let z17 := F_find s 2; z17) else (bif m_cmp .ne (F_hasRange_0 s j n) 0 then ((1, (mvs s 122 i.toNatClampNeg 116 j.toNatClampNeg n.toNatClampNeg))) else (let z21 := F_find s 2; z21))) (y := let z22 := F_find s 4; z22) (fun x : Int32 × SG => x.2) (by (try dsimp only); exact (Fr.bifp (b := m_cmp .eq (F_hasRange_3 s i n) 0) (x := let z17 := F_find s 2; z17) (y := bif m_cmp .ne (F_hasRange_0 s j n) 0 then ((1, (mvs s 122 i.toNatClampNeg 116 j.toNatClampNeg n.toNatClampNeg))) else (let z21 := F_find s 2; z21)) (fun x : Int32 × SG => x.2) (by (try dsimp only); exact (Fr.tr (s1 := s) (Fr.rf _ _) (Fr.wk (W2 := W_ccopy_30) (fr_find s 2) (by rfl)))) (by (try dsimp only); exact (Fr.bifp (b := m_cmp .ne (F_hasRange_0 s j n) 0) (x := (1, (mvs s 122 i.toNatClampNeg 116 j.toNatClampNeg n.toNatClampNeg))) (y := let z21 := F_find s 2; z21) (fun x : Int32 × SG => x.2) (by (try dsimp only); exact (Fr.mvs (by rfl) (Fr.rf _ _))) (by (try dsimp only); exact (Fr.tr (s1 := s) (Fr.rf _ _) (Fr.wk (W2 := W_ccopy_30) (fr_find s 2) (by rfl)))))))) (by (try dsimp only); exact (Fr.tr (s1 := s) (Fr.rf _ _) (Fr.wk (W2 := W_ccopy_30) (fr_find s 4) (by rfl)))))) (by (try dsimp only); exact (Fr.tr (s1 := s) (Fr.rf _ _) (Fr.wk (W2 := W_ccopy_30) (fr_find s 1) (by rfl)))))))) (by (try dsimp only); exact (Fr.rf _ _)))))
set_option maxRecDepth 20000 in
set_option maxHeartbeats 200000 in
theorem ux_ccopy_30 (s : SG) (i : Int32) (j : Int32) (n : Int32)  : UP m_X6_copy 0 (m_ent 8 [.ref 0, .int 3, .int i, .int 0, .int j, .int n]) [] s (Qb (F_ccopy_30 s i j n)) := by
  refine UP.stp 2 (i1 := 2) (L1 := [some (.ref 0), some (.int 3), some (.int i), some (.int 0), some (.int j), some (.int n), none, none]) (st1 := [.int 4, .int 3]) (s1 := s) rfl ?_
  refine UP.cI (M1 := m_X6_isBelow) (as := [.int 3, .int 4]) (rest := []) (T := F_isBelow s 3 4) rfl rfl (ux_isBelow s 3 4) ?_
  refine UP.spl (m_cmp .eq (F_isBelow s 3 4) 0) (((-2), s)) (bif m_cmp .ne (F_isBelow s 0 4) 0 then (bif m_cmp .ne (s 121 1) 0 then (let z9 := F_find s 1; z9) else (bif m_cmp .eq (s 115 1) 0 then (bif m_cmp .eq (s 121 2) (s 115 2) then (bif m_cmp .eq (F_hasRange_3 s i n) 0 then (let z17 := F_find s 2; z17) else (bif m_cmp .ne (F_hasRange_0 s j n) 0 then ((1, (mvs s 122 i.toNatClampNeg 116 j.toNatClampNeg n.toNatClampNeg))) else (let z21 := F_find s 2; z21))) else (let z22 := F_find s 4; z22)) else (let z23 := F_find s 1; z23))) else (((-2), s))) (by first | (dsimp only [F_ccopy_30]; done) | (dsimp only; done) | rfl) (fun cc => ?_) (fun cc => ?_)
  · skip
    refine UP.ifT rfl cc ?_
    refine UP.stp 1 (i1 := 9) (L1 := [some (.ref 0), some (.int 3), some (.int i), some (.int 0), some (.int j), some (.int n), none, none]) (st1 := [.int (-2)]) (s1 := s) rfl ?_
    exact UP.ret (r := some (.int (-2))) rfl ⟨by first | (dsimp only [F_ccopy_30]; done) | (dsimp only; done) | rfl, by first | (dsimp only [F_ccopy_30]; done) | (dsimp only; done) | rfl⟩
  · skip
    refine UP.ifF rfl cc ?_
    refine UP.stp 2 (i1 := 6) (L1 := [some (.ref 0), some (.int 3), some (.int i), some (.int 0), some (.int j), some (.int n), none, none]) (st1 := [.int 4, .int 0]) (s1 := s) rfl ?_
    refine UP.cI (M1 := m_X6_isBelow) (as := [.int 0, .int 4]) (rest := []) (T := F_isBelow s 0 4) rfl rfl (ux_isBelow s 0 4) ?_
    refine UP.spl (m_cmp .ne (F_isBelow s 0 4) 0) (bif m_cmp .ne (s 121 1) 0 then (let z9 := F_find s 1; z9) else (bif m_cmp .eq (s 115 1) 0 then (bif m_cmp .eq (s 121 2) (s 115 2) then (bif m_cmp .eq (F_hasRange_3 s i n) 0 then (let z17 := F_find s 2; z17) else (bif m_cmp .ne (F_hasRange_0 s j n) 0 then ((1, (mvs s 122 i.toNatClampNeg 116 j.toNatClampNeg n.toNatClampNeg))) else (let z21 := F_find s 2; z21))) else (let z22 := F_find s 4; z22)) else (let z23 := F_find s 1; z23))) (((-2), s)) (by first | (dsimp only [F_ccopy_30]; done) | (dsimp only; done) | rfl) (fun cc => ?_) (fun cc => ?_)
    · skip
      refine UP.ifT rfl cc ?_
      refine UP.stp 3 (i1 := 13) (L1 := [some (.ref 0), some (.int 3), some (.int i), some (.int 0), some (.int j), some (.int n), none, none]) (st1 := [.int 3, .ref 9]) (s1 := s) rfl ?_
      refine UP.aald (e := 3) (r := 121) rfl rfl (by omega) rfl ?_
      refine UP.stp 4 (i1 := 18) (L1 := [some (.ref 0), some (.int 3), some (.int i), some (.int 0), some (.int j), some (.int n), some (.ref 121), none]) (st1 := [.int 0, .ref 9]) (s1 := s) rfl ?_
      refine UP.aald (e := 0) (r := 115) rfl rfl (by omega) rfl ?_
      refine UP.stp 3 (i1 := 22) (L1 := [some (.ref 0), some (.int 3), some (.int i), some (.int 0), some (.int j), some (.int n), some (.ref 121), some (.ref 115)]) (st1 := [.int (s 121 1)]) (s1 := s) rfl ?_
      refine UP.spl (m_cmp .ne (s 121 1) 0) (let z9 := F_find s 1; z9) (bif m_cmp .eq (s 115 1) 0 then (bif m_cmp .eq (s 121 2) (s 115 2) then (bif m_cmp .eq (F_hasRange_3 s i n) 0 then (let z17 := F_find s 2; z17) else (bif m_cmp .ne (F_hasRange_0 s j n) 0 then ((1, (mvs s 122 i.toNatClampNeg 116 j.toNatClampNeg n.toNatClampNeg))) else (let z21 := F_find s 2; z21))) else (let z22 := F_find s 4; z22)) else (let z23 := F_find s 1; z23)) (by first | (dsimp only [F_ccopy_30]; done) | (dsimp only; done) | rfl) (fun cc => ?_) (fun cc => ?_)
      · skip
        refine UP.ifT rfl cc ?_
        refine UP.stp 2 (i1 := 28) (L1 := [some (.ref 0), some (.int 3), some (.int i), some (.int 0), some (.int j), some (.int n), some (.ref 121), some (.ref 115)]) (st1 := [.int 1, .ref 0]) (s1 := s) rfl ?_
        refine UP.cB (M1 := m_X6_find) (as := [.ref 0, .int 1]) (rest := []) (T := F_find s 1) rfl rfl (ux_find s 1) (fun z9 e9 => ?_)
        exact UP.ret (r := some (.int z9.1)) rfl ⟨by subst e9; first | (dsimp only [F_ccopy_30]; done) | (dsimp only; done) | rfl, by subst e9; first | (dsimp only [F_ccopy_30]; done) | (dsimp only; done) | rfl⟩
      · skip
        refine UP.ifF rfl cc ?_
        refine UP.stp 2 (i1 := 25) (L1 := [some (.ref 0), some (.int 3), some (.int i), some (.int 0), some (.int j), some (.int n), some (.ref 121), some (.ref 115)]) (st1 := [.int (s 115 1)]) (s1 := s) rfl ?_
        refine UP.spl (m_cmp .eq (s 115 1) 0) (bif m_cmp .eq (s 121 2) (s 115 2) then (bif m_cmp .eq (F_hasRange_3 s i n) 0 then (let z17 := F_find s 2; z17) else (bif m_cmp .ne (F_hasRange_0 s j n) 0 then ((1, (mvs s 122 i.toNatClampNeg 116 j.toNatClampNeg n.toNatClampNeg))) else (let z21 := F_find s 2; z21))) else (let z22 := F_find s 4; z22)) (let z23 := F_find s 1; z23) (by first | (dsimp only [F_ccopy_30]; done) | (dsimp only; done) | rfl) (fun cc => ?_) (fun cc => ?_)
        · skip
          refine UP.ifT rfl cc ?_
          refine UP.stp 4 (i1 := 34) (L1 := [some (.ref 0), some (.int 3), some (.int i), some (.int 0), some (.int j), some (.int n), some (.ref 121), some (.ref 115)]) (st1 := [.int (s 115 2), .int (s 121 2)]) (s1 := s) rfl ?_
          refine UP.spl (m_cmp .eq (s 121 2) (s 115 2)) (bif m_cmp .eq (F_hasRange_3 s i n) 0 then (let z17 := F_find s 2; z17) else (bif m_cmp .ne (F_hasRange_0 s j n) 0 then ((1, (mvs s 122 i.toNatClampNeg 116 j.toNatClampNeg n.toNatClampNeg))) else (let z21 := F_find s 2; z21))) (let z22 := F_find s 4; z22) (by first | (dsimp only [F_ccopy_30]; done) | (dsimp only; done) | rfl) (fun cc => ?_) (fun cc => ?_)
          · skip
            refine UP.icT rfl cc ?_
            refine UP.stp 3 (i1 := 42) (L1 := [some (.ref 0), some (.int 3), some (.int i), some (.int 0), some (.int j), some (.int n), some (.ref 121), some (.ref 115)]) (st1 := [.int n, .int i, .ref 121]) (s1 := s) rfl ?_
            refine UP.cI (M1 := m_X3_hasRange) (as := [.ref 121, .int i, .int n]) (rest := []) (T := F_hasRange_3 s i n) rfl rfl (ux_hasRange_3 s i n) ?_
            refine UP.spl (m_cmp .eq (F_hasRange_3 s i n) 0) (let z17 := F_find s 2; z17) (bif m_cmp .ne (F_hasRange_0 s j n) 0 then ((1, (mvs s 122 i.toNatClampNeg 116 j.toNatClampNeg n.toNatClampNeg))) else (let z21 := F_find s 2; z21)) (by first | (dsimp only [F_ccopy_30]; done) | (dsimp only; done) | rfl) (fun cc => ?_) (fun cc => ?_)
            · skip
              refine UP.ifT rfl cc ?_
              refine UP.stp 2 (i1 := 51) (L1 := [some (.ref 0), some (.int 3), some (.int i), some (.int 0), some (.int j), some (.int n), some (.ref 121), some (.ref 115)]) (st1 := [.int 2, .ref 0]) (s1 := s) rfl ?_
              refine UP.cB (M1 := m_X6_find) (as := [.ref 0, .int 2]) (rest := []) (T := F_find s 2) rfl rfl (ux_find s 2) (fun z17 e17 => ?_)
              exact UP.ret (r := some (.int z17.1)) rfl ⟨by subst e17; first | (dsimp only [F_ccopy_30]; done) | (dsimp only; done) | rfl, by subst e17; first | (dsimp only [F_ccopy_30]; done) | (dsimp only; done) | rfl⟩
            · skip
              refine UP.ifF rfl cc ?_
              refine UP.stp 3 (i1 := 47) (L1 := [some (.ref 0), some (.int 3), some (.int i), some (.int 0), some (.int j), some (.int n), some (.ref 121), some (.ref 115)]) (st1 := [.int n, .int j, .ref 115]) (s1 := s) rfl ?_
              refine UP.cI (M1 := m_X3_hasRange) (as := [.ref 115, .int j, .int n]) (rest := []) (T := F_hasRange_0 s j n) rfl rfl (ux_hasRange_0 s j n) ?_
              refine UP.spl (m_cmp .ne (F_hasRange_0 s j n) 0) ((1, (mvs s 122 i.toNatClampNeg 116 j.toNatClampNeg n.toNatClampNeg))) (let z21 := F_find s 2; z21) (by first | (dsimp only [F_ccopy_30]; done) | (dsimp only; done) | rfl) (fun cc => ?_) (fun cc => ?_)
              · skip
                refine UP.ifT rfl cc ?_
                refine UP.stp 9 (i1 := 62) (L1 := [some (.ref 0), some (.int 3), some (.int i), some (.int 0), some (.int j), some (.int n), some (.ref 121), some (.ref 115)]) (st1 := [.int 1]) (s1 := (mvs s 122 i.toNatClampNeg 116 j.toNatClampNeg n.toNatClampNeg)) rfl ?_
                exact UP.ret (r := some (.int 1)) rfl ⟨by first | (dsimp only [F_ccopy_30]; done) | (dsimp only; done) | rfl, by first | (dsimp only [F_ccopy_30]; done) | (dsimp only; done) | rfl⟩
              · skip
                refine UP.ifF rfl cc ?_
                refine UP.stp 2 (i1 := 51) (L1 := [some (.ref 0), some (.int 3), some (.int i), some (.int 0), some (.int j), some (.int n), some (.ref 121), some (.ref 115)]) (st1 := [.int 2, .ref 0]) (s1 := s) rfl ?_
                refine UP.cB (M1 := m_X6_find) (as := [.ref 0, .int 2]) (rest := []) (T := F_find s 2) rfl rfl (ux_find s 2) (fun z21 e21 => ?_)
                exact UP.ret (r := some (.int z21.1)) rfl ⟨by subst e21; first | (dsimp only [F_ccopy_30]; done) | (dsimp only; done) | rfl, by subst e21; first | (dsimp only [F_ccopy_30]; done) | (dsimp only; done) | rfl⟩
          · skip
            refine UP.icF rfl cc ?_
            refine UP.stp 2 (i1 := 37) (L1 := [some (.ref 0), some (.int 3), some (.int i), some (.int 0), some (.int j), some (.int n), some (.ref 121), some (.ref 115)]) (st1 := [.int 4, .ref 0]) (s1 := s) rfl ?_
            refine UP.cB (M1 := m_X6_find) (as := [.ref 0, .int 4]) (rest := []) (T := F_find s 4) rfl rfl (ux_find s 4) (fun z22 e22 => ?_)
            exact UP.ret (r := some (.int z22.1)) rfl ⟨by subst e22; first | (dsimp only [F_ccopy_30]; done) | (dsimp only; done) | rfl, by subst e22; first | (dsimp only [F_ccopy_30]; done) | (dsimp only; done) | rfl⟩
        · skip
          refine UP.ifF rfl cc ?_
          refine UP.stp 2 (i1 := 28) (L1 := [some (.ref 0), some (.int 3), some (.int i), some (.int 0), some (.int j), some (.int n), some (.ref 121), some (.ref 115)]) (st1 := [.int 1, .ref 0]) (s1 := s) rfl ?_
          refine UP.cB (M1 := m_X6_find) (as := [.ref 0, .int 1]) (rest := []) (T := F_find s 1) rfl rfl (ux_find s 1) (fun z23 e23 => ?_)
          exact UP.ret (r := some (.int z23.1)) rfl ⟨by subst e23; first | (dsimp only [F_ccopy_30]; done) | (dsimp only; done) | rfl, by subst e23; first | (dsimp only [F_ccopy_30]; done) | (dsimp only; done) | rfl⟩
    · skip
      refine UP.ifF rfl cc ?_
      refine UP.stp 1 (i1 := 9) (L1 := [some (.ref 0), some (.int 3), some (.int i), some (.int 0), some (.int j), some (.int n), none, none]) (st1 := [.int (-2)]) (s1 := s) rfl ?_
      exact UP.ret (r := some (.int (-2))) rfl ⟨by first | (dsimp only [F_ccopy_30]; done) | (dsimp only; done) | rfl, by first | (dsimp only [F_ccopy_30]; done) | (dsimp only; done) | rfl⟩
end
section
def W_ccopy_31 : List (Nat × Nat × Option Nat) := [(118, 118, none), (0, 0, some 4)]
def F_ccopy_31 (s : SG) (i : Int32) (j : Int32) (n : Int32) : Int32 × SG := bif m_cmp .eq (F_isBelow s 3 4) 0 then (((-2), s)) else (bif m_cmp .ne (F_isBelow s 1 4) 0 then (bif m_cmp .ne (s 121 1) 0 then (let z9 := F_find s 1; z9) else (bif m_cmp .eq (s 117 1) 0 then (bif m_cmp .eq (s 121 2) (s 117 2) then (bif m_cmp .eq (F_hasRange_3 s i n) 0 then (let z17 := F_find s 2; z17) else (bif m_cmp .ne (F_hasRange_1 s j n) 0 then ((1, (mvs s 122 i.toNatClampNeg 118 j.toNatClampNeg n.toNatClampNeg))) else (let z21 := F_find s 2; z21))) else (let z22 := F_find s 4; z22)) else (let z23 := F_find s 1; z23))) else (((-2), s)))
set_option maxRecDepth 20000 in
set_option maxHeartbeats 200000 in
theorem fr_ccopy_31 (s : SG) (i : Int32) (j : Int32) (n : Int32)  : Fr W_ccopy_31 s (F_ccopy_31 s i j n).2 := by dsimp only [F_ccopy_31]; exact (Fr.bifp (b := m_cmp .eq (F_isBelow s 3 4) 0) (x := ((-2), s)) (y := bif m_cmp .ne (F_isBelow s 1 4) 0 then (bif m_cmp .ne (s 121 1) 0 then (let z9 := F_find s 1; z9) else (bif m_cmp .eq (s 117 1) 0 then (bif m_cmp .eq (s 121 2) (s 117 2) then (bif m_cmp .eq (F_hasRange_3 s i n) 0 then (let z17 := F_find s 2; z17) else (bif m_cmp .ne (F_hasRange_1 s j n) 0 then ((1, (mvs s 122 i.toNatClampNeg 118 j.toNatClampNeg n.toNatClampNeg))) else (let z21 := F_find s 2; z21))) else (let z22 := F_find s 4; z22)) else (let z23 := F_find s 1; z23))) else (((-2), s))) (fun x : Int32 × SG => x.2) (by (try dsimp only); exact (Fr.rf _ _)) (by (try dsimp only); exact (Fr.bifp (b := m_cmp .ne (F_isBelow s 1 4) 0) (x := bif m_cmp .ne (s 121 1) 0 then (let z9 := F_find s 1; z9) else (bif m_cmp .eq (s 117 1) 0 then (bif m_cmp .eq (s 121 2) (s 117 2) then (bif m_cmp .eq (F_hasRange_3 s i n) 0 then (let z17 := F_find s 2; z17) else (bif m_cmp .ne (F_hasRange_1 s j n) 0 then ((1, (mvs s 122 i.toNatClampNeg 118 j.toNatClampNeg n.toNatClampNeg))) else (let z21 := F_find s 2; z21))) else (let z22 := F_find s 4; z22)) else (let z23 := F_find s 1; z23))) (y := ((-2), s)) (fun x : Int32 × SG => x.2) (by (try dsimp only); exact (Fr.bifp (b := m_cmp .ne (s 121 1) 0) (x := let z9 := F_find s 1; z9) (y := bif m_cmp .eq (s 117 1) 0 then (bif m_cmp .eq (s 121 2) (s 117 2) then (bif m_cmp .eq (F_hasRange_3 s i n) 0 then (let z17 := F_find s 2; z17) else (bif m_cmp .ne (F_hasRange_1 s j n) 0 then ((1, (mvs s 122 i.toNatClampNeg 118 j.toNatClampNeg n.toNatClampNeg))) else (let z21 := F_find s 2; z21))) else (let z22 := F_find s 4; z22)) else (let z23 := F_find s 1; z23)) (fun x : Int32 × SG => x.2) (by (try dsimp only); exact (Fr.tr (s1 := s) (Fr.rf _ _) (Fr.wk (W2 := W_ccopy_31) (fr_find s 1) (by rfl)))) (by (try dsimp only); exact (Fr.bifp (b := m_cmp .eq (s 117 1) 0) (x := bif m_cmp .eq (s 121 2) (s 117 2) then (bif m_cmp .eq (F_hasRange_3 s i n) 0 then (let z17 := F_find s 2; z17) else (bif m_cmp .ne (F_hasRange_1 s j n) 0 then ((1, (mvs s 122 i.toNatClampNeg 118 j.toNatClampNeg n.toNatClampNeg))) else (let z21 := F_find s 2; z21))) else (let z22 := F_find s 4; z22)) (y := let z23 := F_find s 1; z23) (fun x : Int32 × SG => x.2) (by (try dsimp only); exact (Fr.bifp (b := m_cmp .eq (s 121 2) (s 117 2)) (x := bif m_cmp .eq (F_hasRange_3 s i n) 0 then (let z17 := F_find s 2; z17) else (bif m_cmp .ne (F_hasRange_1 s j n) 0 then ((1, (mvs s 122 i.toNatClampNeg 118 j.toNatClampNeg n.toNatClampNeg))) else (let z21 := F_find s 2; z21))) (y := let z22 := F_find s 4; z22) (fun x : Int32 × SG => x.2) (by (try dsimp only); exact (Fr.bifp (b := m_cmp .eq (F_hasRange_3 s i n) 0) (x := let z17 := F_find s 2; z17) (y := bif m_cmp .ne (F_hasRange_1 s j n) 0 then ((1, (mvs s 122 i.toNatClampNeg 118 j.toNatClampNeg n.toNatClampNeg))) else (let z21 := F_find s 2; z21)) (fun x : Int32 × SG => x.2) (by (try dsimp only); exact (Fr.tr (s1 := s) (Fr.rf _ _) (Fr.wk (W2 := W_ccopy_31) (fr_find s 2) (by rfl)))) (by (try dsimp only); exact (Fr.bifp (b := m_cmp .ne (F_hasRange_1 s j n) 0) (x := (1, (mvs s 122 i.toNatClampNeg 118 j.toNatClampNeg n.toNatClampNeg))) (y := let z21 := F_find s 2; z21) (fun x : Int32 × SG => x.2) (by (try dsimp only); exact (Fr.mvs (by rfl) (Fr.rf _ _))) (by (try dsimp only); exact (Fr.tr (s1 := s) (Fr.rf _ _) (Fr.wk (W2 := W_ccopy_31) (fr_find s 2) (by rfl)))))))) (by (try dsimp only); exact (Fr.tr (s1 := s) (Fr.rf _ _) (Fr.wk (W2 := W_ccopy_31) (fr_find s 4) (by rfl)))))) (by (try dsimp only); exact (Fr.tr (s1 := s) (Fr.rf _ _) (Fr.wk (W2 := W_ccopy_31) (fr_find s 1) (by rfl)))))))) (by (try dsimp only); exact (Fr.rf _ _)))))
set_option maxRecDepth 20000 in
set_option maxHeartbeats 200000 in
theorem ux_ccopy_31 (s : SG) (i : Int32) (j : Int32) (n : Int32)  : UP m_X6_copy 0 (m_ent 8 [.ref 0, .int 3, .int i, .int 1, .int j, .int n]) [] s (Qb (F_ccopy_31 s i j n)) := by
  refine UP.stp 2 (i1 := 2) (L1 := [some (.ref 0), some (.int 3), some (.int i), some (.int 1), some (.int j), some (.int n), none, none]) (st1 := [.int 4, .int 3]) (s1 := s) rfl ?_
  refine UP.cI (M1 := m_X6_isBelow) (as := [.int 3, .int 4]) (rest := []) (T := F_isBelow s 3 4) rfl rfl (ux_isBelow s 3 4) ?_
  refine UP.spl (m_cmp .eq (F_isBelow s 3 4) 0) (((-2), s)) (bif m_cmp .ne (F_isBelow s 1 4) 0 then (bif m_cmp .ne (s 121 1) 0 then (let z9 := F_find s 1; z9) else (bif m_cmp .eq (s 117 1) 0 then (bif m_cmp .eq (s 121 2) (s 117 2) then (bif m_cmp .eq (F_hasRange_3 s i n) 0 then (let z17 := F_find s 2; z17) else (bif m_cmp .ne (F_hasRange_1 s j n) 0 then ((1, (mvs s 122 i.toNatClampNeg 118 j.toNatClampNeg n.toNatClampNeg))) else (let z21 := F_find s 2; z21))) else (let z22 := F_find s 4; z22)) else (let z23 := F_find s 1; z23))) else (((-2), s))) (by first | (dsimp only [F_ccopy_31]; done) | (dsimp only; done) | rfl) (fun cc => ?_) (fun cc => ?_)
  · skip
    refine UP.ifT rfl cc ?_
    refine UP.stp 1 (i1 := 9) (L1 := [some (.ref 0), some (.int 3), some (.int i), some (.int 1), some (.int j), some (.int n), none, none]) (st1 := [.int (-2)]) (s1 := s) rfl ?_
    exact UP.ret (r := some (.int (-2))) rfl ⟨by first | (dsimp only [F_ccopy_31]; done) | (dsimp only; done) | rfl, by first | (dsimp only [F_ccopy_31]; done) | (dsimp only; done) | rfl⟩
  · skip
    refine UP.ifF rfl cc ?_
    refine UP.stp 2 (i1 := 6) (L1 := [some (.ref 0), some (.int 3), some (.int i), some (.int 1), some (.int j), some (.int n), none, none]) (st1 := [.int 4, .int 1]) (s1 := s) rfl ?_
    refine UP.cI (M1 := m_X6_isBelow) (as := [.int 1, .int 4]) (rest := []) (T := F_isBelow s 1 4) rfl rfl (ux_isBelow s 1 4) ?_
    refine UP.spl (m_cmp .ne (F_isBelow s 1 4) 0) (bif m_cmp .ne (s 121 1) 0 then (let z9 := F_find s 1; z9) else (bif m_cmp .eq (s 117 1) 0 then (bif m_cmp .eq (s 121 2) (s 117 2) then (bif m_cmp .eq (F_hasRange_3 s i n) 0 then (let z17 := F_find s 2; z17) else (bif m_cmp .ne (F_hasRange_1 s j n) 0 then ((1, (mvs s 122 i.toNatClampNeg 118 j.toNatClampNeg n.toNatClampNeg))) else (let z21 := F_find s 2; z21))) else (let z22 := F_find s 4; z22)) else (let z23 := F_find s 1; z23))) (((-2), s)) (by first | (dsimp only [F_ccopy_31]; done) | (dsimp only; done) | rfl) (fun cc => ?_) (fun cc => ?_)
    · skip
      refine UP.ifT rfl cc ?_
      refine UP.stp 3 (i1 := 13) (L1 := [some (.ref 0), some (.int 3), some (.int i), some (.int 1), some (.int j), some (.int n), none, none]) (st1 := [.int 3, .ref 9]) (s1 := s) rfl ?_
      refine UP.aald (e := 3) (r := 121) rfl rfl (by omega) rfl ?_
      refine UP.stp 4 (i1 := 18) (L1 := [some (.ref 0), some (.int 3), some (.int i), some (.int 1), some (.int j), some (.int n), some (.ref 121), none]) (st1 := [.int 1, .ref 9]) (s1 := s) rfl ?_
      refine UP.aald (e := 1) (r := 117) rfl rfl (by omega) rfl ?_
      refine UP.stp 3 (i1 := 22) (L1 := [some (.ref 0), some (.int 3), some (.int i), some (.int 1), some (.int j), some (.int n), some (.ref 121), some (.ref 117)]) (st1 := [.int (s 121 1)]) (s1 := s) rfl ?_
      refine UP.spl (m_cmp .ne (s 121 1) 0) (let z9 := F_find s 1; z9) (bif m_cmp .eq (s 117 1) 0 then (bif m_cmp .eq (s 121 2) (s 117 2) then (bif m_cmp .eq (F_hasRange_3 s i n) 0 then (let z17 := F_find s 2; z17) else (bif m_cmp .ne (F_hasRange_1 s j n) 0 then ((1, (mvs s 122 i.toNatClampNeg 118 j.toNatClampNeg n.toNatClampNeg))) else (let z21 := F_find s 2; z21))) else (let z22 := F_find s 4; z22)) else (let z23 := F_find s 1; z23)) (by first | (dsimp only [F_ccopy_31]; done) | (dsimp only; done) | rfl) (fun cc => ?_) (fun cc => ?_)
      · skip
        refine UP.ifT rfl cc ?_
        refine UP.stp 2 (i1 := 28) (L1 := [some (.ref 0), some (.int 3), some (.int i), some (.int 1), some (.int j), some (.int n), some (.ref 121), some (.ref 117)]) (st1 := [.int 1, .ref 0]) (s1 := s) rfl ?_
        refine UP.cB (M1 := m_X6_find) (as := [.ref 0, .int 1]) (rest := []) (T := F_find s 1) rfl rfl (ux_find s 1) (fun z9 e9 => ?_)
        exact UP.ret (r := some (.int z9.1)) rfl ⟨by subst e9; first | (dsimp only [F_ccopy_31]; done) | (dsimp only; done) | rfl, by subst e9; first | (dsimp only [F_ccopy_31]; done) | (dsimp only; done) | rfl⟩
      · skip
        refine UP.ifF rfl cc ?_
        refine UP.stp 2 (i1 := 25) (L1 := [some (.ref 0), some (.int 3), some (.int i), some (.int 1), some (.int j), some (.int n), some (.ref 121), some (.ref 117)]) (st1 := [.int (s 117 1)]) (s1 := s) rfl ?_
        refine UP.spl (m_cmp .eq (s 117 1) 0) (bif m_cmp .eq (s 121 2) (s 117 2) then (bif m_cmp .eq (F_hasRange_3 s i n) 0 then (let z17 := F_find s 2; z17) else (bif m_cmp .ne (F_hasRange_1 s j n) 0 then ((1, (mvs s 122 i.toNatClampNeg 118 j.toNatClampNeg n.toNatClampNeg))) else (let z21 := F_find s 2; z21))) else (let z22 := F_find s 4; z22)) (let z23 := F_find s 1; z23) (by first | (dsimp only [F_ccopy_31]; done) | (dsimp only; done) | rfl) (fun cc => ?_) (fun cc => ?_)
        · skip
          refine UP.ifT rfl cc ?_
          refine UP.stp 4 (i1 := 34) (L1 := [some (.ref 0), some (.int 3), some (.int i), some (.int 1), some (.int j), some (.int n), some (.ref 121), some (.ref 117)]) (st1 := [.int (s 117 2), .int (s 121 2)]) (s1 := s) rfl ?_
          refine UP.spl (m_cmp .eq (s 121 2) (s 117 2)) (bif m_cmp .eq (F_hasRange_3 s i n) 0 then (let z17 := F_find s 2; z17) else (bif m_cmp .ne (F_hasRange_1 s j n) 0 then ((1, (mvs s 122 i.toNatClampNeg 118 j.toNatClampNeg n.toNatClampNeg))) else (let z21 := F_find s 2; z21))) (let z22 := F_find s 4; z22) (by first | (dsimp only [F_ccopy_31]; done) | (dsimp only; done) | rfl) (fun cc => ?_) (fun cc => ?_)
          · skip
            refine UP.icT rfl cc ?_
            refine UP.stp 3 (i1 := 42) (L1 := [some (.ref 0), some (.int 3), some (.int i), some (.int 1), some (.int j), some (.int n), some (.ref 121), some (.ref 117)]) (st1 := [.int n, .int i, .ref 121]) (s1 := s) rfl ?_
            refine UP.cI (M1 := m_X3_hasRange) (as := [.ref 121, .int i, .int n]) (rest := []) (T := F_hasRange_3 s i n) rfl rfl (ux_hasRange_3 s i n) ?_
            refine UP.spl (m_cmp .eq (F_hasRange_3 s i n) 0) (let z17 := F_find s 2; z17) (bif m_cmp .ne (F_hasRange_1 s j n) 0 then ((1, (mvs s 122 i.toNatClampNeg 118 j.toNatClampNeg n.toNatClampNeg))) else (let z21 := F_find s 2; z21)) (by first | (dsimp only [F_ccopy_31]; done) | (dsimp only; done) | rfl) (fun cc => ?_) (fun cc => ?_)
            · skip
              refine UP.ifT rfl cc ?_
              refine UP.stp 2 (i1 := 51) (L1 := [some (.ref 0), some (.int 3), some (.int i), some (.int 1), some (.int j), some (.int n), some (.ref 121), some (.ref 117)]) (st1 := [.int 2, .ref 0]) (s1 := s) rfl ?_
              refine UP.cB (M1 := m_X6_find) (as := [.ref 0, .int 2]) (rest := []) (T := F_find s 2) rfl rfl (ux_find s 2) (fun z17 e17 => ?_)
              exact UP.ret (r := some (.int z17.1)) rfl ⟨by subst e17; first | (dsimp only [F_ccopy_31]; done) | (dsimp only; done) | rfl, by subst e17; first | (dsimp only [F_ccopy_31]; done) | (dsimp only; done) | rfl⟩
            · skip
              refine UP.ifF rfl cc ?_
              refine UP.stp 3 (i1 := 47) (L1 := [some (.ref 0), some (.int 3), some (.int i), some (.int 1), some (.int j), some (.int n), some (.ref 121), some (.ref 117)]) (st1 := [.int n, .int j, .ref 117]) (s1 := s) rfl ?_
              refine UP.cI (M1 := m_X3_hasRange) (as := [.ref 117, .int j, .int n]) (rest := []) (T := F_hasRange_1 s j n) rfl rfl (ux_hasRange_1 s j n) ?_
              refine UP.spl (m_cmp .ne (F_hasRange_1 s j n) 0) ((1, (mvs s 122 i.toNatClampNeg 118 j.toNatClampNeg n.toNatClampNeg))) (let z21 := F_find s 2; z21) (by first | (dsimp only [F_ccopy_31]; done) | (dsimp only; done) | rfl) (fun cc => ?_) (fun cc => ?_)
              · skip
                refine UP.ifT rfl cc ?_
                refine UP.stp 9 (i1 := 62) (L1 := [some (.ref 0), some (.int 3), some (.int i), some (.int 1), some (.int j), some (.int n), some (.ref 121), some (.ref 117)]) (st1 := [.int 1]) (s1 := (mvs s 122 i.toNatClampNeg 118 j.toNatClampNeg n.toNatClampNeg)) rfl ?_
                exact UP.ret (r := some (.int 1)) rfl ⟨by first | (dsimp only [F_ccopy_31]; done) | (dsimp only; done) | rfl, by first | (dsimp only [F_ccopy_31]; done) | (dsimp only; done) | rfl⟩
              · skip
                refine UP.ifF rfl cc ?_
                refine UP.stp 2 (i1 := 51) (L1 := [some (.ref 0), some (.int 3), some (.int i), some (.int 1), some (.int j), some (.int n), some (.ref 121), some (.ref 117)]) (st1 := [.int 2, .ref 0]) (s1 := s) rfl ?_
                refine UP.cB (M1 := m_X6_find) (as := [.ref 0, .int 2]) (rest := []) (T := F_find s 2) rfl rfl (ux_find s 2) (fun z21 e21 => ?_)
                exact UP.ret (r := some (.int z21.1)) rfl ⟨by subst e21; first | (dsimp only [F_ccopy_31]; done) | (dsimp only; done) | rfl, by subst e21; first | (dsimp only [F_ccopy_31]; done) | (dsimp only; done) | rfl⟩
          · skip
            refine UP.icF rfl cc ?_
            refine UP.stp 2 (i1 := 37) (L1 := [some (.ref 0), some (.int 3), some (.int i), some (.int 1), some (.int j), some (.int n), some (.ref 121), some (.ref 117)]) (st1 := [.int 4, .ref 0]) (s1 := s) rfl ?_
            refine UP.cB (M1 := m_X6_find) (as := [.ref 0, .int 4]) (rest := []) (T := F_find s 4) rfl rfl (ux_find s 4) (fun z22 e22 => ?_)
            exact UP.ret (r := some (.int z22.1)) rfl ⟨by subst e22; first | (dsimp only [F_ccopy_31]; done) | (dsimp only; done) | rfl, by subst e22; first | (dsimp only [F_ccopy_31]; done) | (dsimp only; done) | rfl⟩
        · skip
          refine UP.ifF rfl cc ?_
          refine UP.stp 2 (i1 := 28) (L1 := [some (.ref 0), some (.int 3), some (.int i), some (.int 1), some (.int j), some (.int n), some (.ref 121), some (.ref 117)]) (st1 := [.int 1, .ref 0]) (s1 := s) rfl ?_
          refine UP.cB (M1 := m_X6_find) (as := [.ref 0, .int 1]) (rest := []) (T := F_find s 1) rfl rfl (ux_find s 1) (fun z23 e23 => ?_)
          exact UP.ret (r := some (.int z23.1)) rfl ⟨by subst e23; first | (dsimp only [F_ccopy_31]; done) | (dsimp only; done) | rfl, by subst e23; first | (dsimp only [F_ccopy_31]; done) | (dsimp only; done) | rfl⟩
    · skip
      refine UP.ifF rfl cc ?_
      refine UP.stp 1 (i1 := 9) (L1 := [some (.ref 0), some (.int 3), some (.int i), some (.int 1), some (.int j), some (.int n), none, none]) (st1 := [.int (-2)]) (s1 := s) rfl ?_
      exact UP.ret (r := some (.int (-2))) rfl ⟨by first | (dsimp only [F_ccopy_31]; done) | (dsimp only; done) | rfl, by first | (dsimp only [F_ccopy_31]; done) | (dsimp only; done) | rfl⟩
end
section
def W_ccopy_32 : List (Nat × Nat × Option Nat) := [(120, 120, none), (0, 0, some 4)]
def F_ccopy_32 (s : SG) (i : Int32) (j : Int32) (n : Int32) : Int32 × SG := bif m_cmp .eq (F_isBelow s 3 4) 0 then (((-2), s)) else (bif m_cmp .ne (F_isBelow s 2 4) 0 then (bif m_cmp .ne (s 121 1) 0 then (let z9 := F_find s 1; z9) else (bif m_cmp .eq (s 119 1) 0 then (bif m_cmp .eq (s 121 2) (s 119 2) then (bif m_cmp .eq (F_hasRange_3 s i n) 0 then (let z17 := F_find s 2; z17) else (bif m_cmp .ne (F_hasRange_2 s j n) 0 then ((1, (mvs s 122 i.toNatClampNeg 120 j.toNatClampNeg n.toNatClampNeg))) else (let z21 := F_find s 2; z21))) else (let z22 := F_find s 4; z22)) else (let z23 := F_find s 1; z23))) else (((-2), s)))
set_option maxRecDepth 20000 in
set_option maxHeartbeats 200000 in
theorem fr_ccopy_32 (s : SG) (i : Int32) (j : Int32) (n : Int32)  : Fr W_ccopy_32 s (F_ccopy_32 s i j n).2 := by dsimp only [F_ccopy_32]; exact (Fr.bifp (b := m_cmp .eq (F_isBelow s 3 4) 0) (x := ((-2), s)) (y := bif m_cmp .ne (F_isBelow s 2 4) 0 then (bif m_cmp .ne (s 121 1) 0 then (let z9 := F_find s 1; z9) else (bif m_cmp .eq (s 119 1) 0 then (bif m_cmp .eq (s 121 2) (s 119 2) then (bif m_cmp .eq (F_hasRange_3 s i n) 0 then (let z17 := F_find s 2; z17) else (bif m_cmp .ne (F_hasRange_2 s j n) 0 then ((1, (mvs s 122 i.toNatClampNeg 120 j.toNatClampNeg n.toNatClampNeg))) else (let z21 := F_find s 2; z21))) else (let z22 := F_find s 4; z22)) else (let z23 := F_find s 1; z23))) else (((-2), s))) (fun x : Int32 × SG => x.2) (by (try dsimp only); exact (Fr.rf _ _)) (by (try dsimp only); exact (Fr.bifp (b := m_cmp .ne (F_isBelow s 2 4) 0) (x := bif m_cmp .ne (s 121 1) 0 then (let z9 := F_find s 1; z9) else (bif m_cmp .eq (s 119 1) 0 then (bif m_cmp .eq (s 121 2) (s 119 2) then (bif m_cmp .eq (F_hasRange_3 s i n) 0 then (let z17 := F_find s 2; z17) else (bif m_cmp .ne (F_hasRange_2 s j n) 0 then ((1, (mvs s 122 i.toNatClampNeg 120 j.toNatClampNeg n.toNatClampNeg))) else (let z21 := F_find s 2; z21))) else (let z22 := F_find s 4; z22)) else (let z23 := F_find s 1; z23))) (y := ((-2), s)) (fun x : Int32 × SG => x.2) (by (try dsimp only); exact (Fr.bifp (b := m_cmp .ne (s 121 1) 0) (x := let z9 := F_find s 1; z9) (y := bif m_cmp .eq (s 119 1) 0 then (bif m_cmp .eq (s 121 2) (s 119 2) then (bif m_cmp .eq (F_hasRange_3 s i n) 0 then (let z17 := F_find s 2; z17) else (bif m_cmp .ne (F_hasRange_2 s j n) 0 then ((1, (mvs s 122 i.toNatClampNeg 120 j.toNatClampNeg n.toNatClampNeg))) else (let z21 := F_find s 2; z21))) else (let z22 := F_find s 4; z22)) else (let z23 := F_find s 1; z23)) (fun x : Int32 × SG => x.2) (by (try dsimp only); exact (Fr.tr (s1 := s) (Fr.rf _ _) (Fr.wk (W2 := W_ccopy_32) (fr_find s 1) (by rfl)))) (by (try dsimp only); exact (Fr.bifp (b := m_cmp .eq (s 119 1) 0) (x := bif m_cmp .eq (s 121 2) (s 119 2) then (bif m_cmp .eq (F_hasRange_3 s i n) 0 then (let z17 := F_find s 2; z17) else (bif m_cmp .ne (F_hasRange_2 s j n) 0 then ((1, (mvs s 122 i.toNatClampNeg 120 j.toNatClampNeg n.toNatClampNeg))) else (let z21 := F_find s 2; z21))) else (let z22 := F_find s 4; z22)) (y := let z23 := F_find s 1; z23) (fun x : Int32 × SG => x.2) (by (try dsimp only); exact (Fr.bifp (b := m_cmp .eq (s 121 2) (s 119 2)) (x := bif m_cmp .eq (F_hasRange_3 s i n) 0 then (let z17 := F_find s 2; z17) else (bif m_cmp .ne (F_hasRange_2 s j n) 0 then ((1, (mvs s 122 i.toNatClampNeg 120 j.toNatClampNeg n.toNatClampNeg))) else (let z21 := F_find s 2; z21))) (y := let z22 := F_find s 4; z22) (fun x : Int32 × SG => x.2) (by (try dsimp only); exact (Fr.bifp (b := m_cmp .eq (F_hasRange_3 s i n) 0) (x := let z17 := F_find s 2; z17) (y := bif m_cmp .ne (F_hasRange_2 s j n) 0 then ((1, (mvs s 122 i.toNatClampNeg 120 j.toNatClampNeg n.toNatClampNeg))) else (let z21 := F_find s 2; z21)) (fun x : Int32 × SG => x.2) (by (try dsimp only); exact (Fr.tr (s1 := s) (Fr.rf _ _) (Fr.wk (W2 := W_ccopy_32) (fr_find s 2) (by rfl)))) (by (try dsimp only); exact (Fr.bifp (b := m_cmp .ne (F_hasRange_2 s j n) 0) (x := (1, (mvs s 122 i.toNatClampNeg 120 j.toNatClampNeg n.toNatClampNeg))) (y := let z21 := F_find s 2; z21) (fun x : Int32 × SG => x.2) (by (try dsimp only); exact (Fr.mvs (by rfl) (Fr.rf _ _))) (by (try dsimp only); exact (Fr.tr (s1 := s) (Fr.rf _ _) (Fr.wk (W2 := W_ccopy_32) (fr_find s 2) (by rfl)))))))) (by (try dsimp only); exact (Fr.tr (s1 := s) (Fr.rf _ _) (Fr.wk (W2 := W_ccopy_32) (fr_find s 4) (by rfl)))))) (by (try dsimp only); exact (Fr.tr (s1 := s) (Fr.rf _ _) (Fr.wk (W2 := W_ccopy_32) (fr_find s 1) (by rfl)))))))) (by (try dsimp only); exact (Fr.rf _ _)))))
set_option maxRecDepth 20000 in
set_option maxHeartbeats 200000 in
theorem ux_ccopy_32 (s : SG) (i : Int32) (j : Int32) (n : Int32)  : UP m_X6_copy 0 (m_ent 8 [.ref 0, .int 3, .int i, .int 2, .int j, .int n]) [] s (Qb (F_ccopy_32 s i j n)) := by
  refine UP.stp 2 (i1 := 2) (L1 := [some (.ref 0), some (.int 3), some (.int i), some (.int 2), some (.int j), some (.int n), none, none]) (st1 := [.int 4, .int 3]) (s1 := s) rfl ?_
  refine UP.cI (M1 := m_X6_isBelow) (as := [.int 3, .int 4]) (rest := []) (T := F_isBelow s 3 4) rfl rfl (ux_isBelow s 3 4) ?_
  refine UP.spl (m_cmp .eq (F_isBelow s 3 4) 0) (((-2), s)) (bif m_cmp .ne (F_isBelow s 2 4) 0 then (bif m_cmp .ne (s 121 1) 0 then (let z9 := F_find s 1; z9) else (bif m_cmp .eq (s 119 1) 0 then (bif m_cmp .eq (s 121 2) (s 119 2) then (bif m_cmp .eq (F_hasRange_3 s i n) 0 then (let z17 := F_find s 2; z17) else (bif m_cmp .ne (F_hasRange_2 s j n) 0 then ((1, (mvs s 122 i.toNatClampNeg 120 j.toNatClampNeg n.toNatClampNeg))) else (let z21 := F_find s 2; z21))) else (let z22 := F_find s 4; z22)) else (let z23 := F_find s 1; z23))) else (((-2), s))) (by first | (dsimp only [F_ccopy_32]; done) | (dsimp only; done) | rfl) (fun cc => ?_) (fun cc => ?_)
  · skip
    refine UP.ifT rfl cc ?_
    refine UP.stp 1 (i1 := 9) (L1 := [some (.ref 0), some (.int 3), some (.int i), some (.int 2), some (.int j), some (.int n), none, none]) (st1 := [.int (-2)]) (s1 := s) rfl ?_
    exact UP.ret (r := some (.int (-2))) rfl ⟨by first | (dsimp only [F_ccopy_32]; done) | (dsimp only; done) | rfl, by first | (dsimp only [F_ccopy_32]; done) | (dsimp only; done) | rfl⟩
  · skip
    refine UP.ifF rfl cc ?_
    refine UP.stp 2 (i1 := 6) (L1 := [some (.ref 0), some (.int 3), some (.int i), some (.int 2), some (.int j), some (.int n), none, none]) (st1 := [.int 4, .int 2]) (s1 := s) rfl ?_
    refine UP.cI (M1 := m_X6_isBelow) (as := [.int 2, .int 4]) (rest := []) (T := F_isBelow s 2 4) rfl rfl (ux_isBelow s 2 4) ?_
    refine UP.spl (m_cmp .ne (F_isBelow s 2 4) 0) (bif m_cmp .ne (s 121 1) 0 then (let z9 := F_find s 1; z9) else (bif m_cmp .eq (s 119 1) 0 then (bif m_cmp .eq (s 121 2) (s 119 2) then (bif m_cmp .eq (F_hasRange_3 s i n) 0 then (let z17 := F_find s 2; z17) else (bif m_cmp .ne (F_hasRange_2 s j n) 0 then ((1, (mvs s 122 i.toNatClampNeg 120 j.toNatClampNeg n.toNatClampNeg))) else (let z21 := F_find s 2; z21))) else (let z22 := F_find s 4; z22)) else (let z23 := F_find s 1; z23))) (((-2), s)) (by first | (dsimp only [F_ccopy_32]; done) | (dsimp only; done) | rfl) (fun cc => ?_) (fun cc => ?_)
    · skip
      refine UP.ifT rfl cc ?_
      refine UP.stp 3 (i1 := 13) (L1 := [some (.ref 0), some (.int 3), some (.int i), some (.int 2), some (.int j), some (.int n), none, none]) (st1 := [.int 3, .ref 9]) (s1 := s) rfl ?_
      refine UP.aald (e := 3) (r := 121) rfl rfl (by omega) rfl ?_
      refine UP.stp 4 (i1 := 18) (L1 := [some (.ref 0), some (.int 3), some (.int i), some (.int 2), some (.int j), some (.int n), some (.ref 121), none]) (st1 := [.int 2, .ref 9]) (s1 := s) rfl ?_
      refine UP.aald (e := 2) (r := 119) rfl rfl (by omega) rfl ?_
      refine UP.stp 3 (i1 := 22) (L1 := [some (.ref 0), some (.int 3), some (.int i), some (.int 2), some (.int j), some (.int n), some (.ref 121), some (.ref 119)]) (st1 := [.int (s 121 1)]) (s1 := s) rfl ?_
      refine UP.spl (m_cmp .ne (s 121 1) 0) (let z9 := F_find s 1; z9) (bif m_cmp .eq (s 119 1) 0 then (bif m_cmp .eq (s 121 2) (s 119 2) then (bif m_cmp .eq (F_hasRange_3 s i n) 0 then (let z17 := F_find s 2; z17) else (bif m_cmp .ne (F_hasRange_2 s j n) 0 then ((1, (mvs s 122 i.toNatClampNeg 120 j.toNatClampNeg n.toNatClampNeg))) else (let z21 := F_find s 2; z21))) else (let z22 := F_find s 4; z22)) else (let z23 := F_find s 1; z23)) (by first | (dsimp only [F_ccopy_32]; done) | (dsimp only; done) | rfl) (fun cc => ?_) (fun cc => ?_)
      · skip
        refine UP.ifT rfl cc ?_
        refine UP.stp 2 (i1 := 28) (L1 := [some (.ref 0), some (.int 3), some (.int i), some (.int 2), some (.int j), some (.int n), some (.ref 121), some (.ref 119)]) (st1 := [.int 1, .ref 0]) (s1 := s) rfl ?_
        refine UP.cB (M1 := m_X6_find) (as := [.ref 0, .int 1]) (rest := []) (T := F_find s 1) rfl rfl (ux_find s 1) (fun z9 e9 => ?_)
        exact UP.ret (r := some (.int z9.1)) rfl ⟨by subst e9; first | (dsimp only [F_ccopy_32]; done) | (dsimp only; done) | rfl, by subst e9; first | (dsimp only [F_ccopy_32]; done) | (dsimp only; done) | rfl⟩
      · skip
        refine UP.ifF rfl cc ?_
        refine UP.stp 2 (i1 := 25) (L1 := [some (.ref 0), some (.int 3), some (.int i), some (.int 2), some (.int j), some (.int n), some (.ref 121), some (.ref 119)]) (st1 := [.int (s 119 1)]) (s1 := s) rfl ?_
        refine UP.spl (m_cmp .eq (s 119 1) 0) (bif m_cmp .eq (s 121 2) (s 119 2) then (bif m_cmp .eq (F_hasRange_3 s i n) 0 then (let z17 := F_find s 2; z17) else (bif m_cmp .ne (F_hasRange_2 s j n) 0 then ((1, (mvs s 122 i.toNatClampNeg 120 j.toNatClampNeg n.toNatClampNeg))) else (let z21 := F_find s 2; z21))) else (let z22 := F_find s 4; z22)) (let z23 := F_find s 1; z23) (by first | (dsimp only [F_ccopy_32]; done) | (dsimp only; done) | rfl) (fun cc => ?_) (fun cc => ?_)
        · skip
          refine UP.ifT rfl cc ?_
          refine UP.stp 4 (i1 := 34) (L1 := [some (.ref 0), some (.int 3), some (.int i), some (.int 2), some (.int j), some (.int n), some (.ref 121), some (.ref 119)]) (st1 := [.int (s 119 2), .int (s 121 2)]) (s1 := s) rfl ?_
          refine UP.spl (m_cmp .eq (s 121 2) (s 119 2)) (bif m_cmp .eq (F_hasRange_3 s i n) 0 then (let z17 := F_find s 2; z17) else (bif m_cmp .ne (F_hasRange_2 s j n) 0 then ((1, (mvs s 122 i.toNatClampNeg 120 j.toNatClampNeg n.toNatClampNeg))) else (let z21 := F_find s 2; z21))) (let z22 := F_find s 4; z22) (by first | (dsimp only [F_ccopy_32]; done) | (dsimp only; done) | rfl) (fun cc => ?_) (fun cc => ?_)
          · skip
            refine UP.icT rfl cc ?_
            refine UP.stp 3 (i1 := 42) (L1 := [some (.ref 0), some (.int 3), some (.int i), some (.int 2), some (.int j), some (.int n), some (.ref 121), some (.ref 119)]) (st1 := [.int n, .int i, .ref 121]) (s1 := s) rfl ?_
            refine UP.cI (M1 := m_X3_hasRange) (as := [.ref 121, .int i, .int n]) (rest := []) (T := F_hasRange_3 s i n) rfl rfl (ux_hasRange_3 s i n) ?_
            refine UP.spl (m_cmp .eq (F_hasRange_3 s i n) 0) (let z17 := F_find s 2; z17) (bif m_cmp .ne (F_hasRange_2 s j n) 0 then ((1, (mvs s 122 i.toNatClampNeg 120 j.toNatClampNeg n.toNatClampNeg))) else (let z21 := F_find s 2; z21)) (by first | (dsimp only [F_ccopy_32]; done) | (dsimp only; done) | rfl) (fun cc => ?_) (fun cc => ?_)
            · skip
              refine UP.ifT rfl cc ?_
              refine UP.stp 2 (i1 := 51) (L1 := [some (.ref 0), some (.int 3), some (.int i), some (.int 2), some (.int j), some (.int n), some (.ref 121), some (.ref 119)]) (st1 := [.int 2, .ref 0]) (s1 := s) rfl ?_
              refine UP.cB (M1 := m_X6_find) (as := [.ref 0, .int 2]) (rest := []) (T := F_find s 2) rfl rfl (ux_find s 2) (fun z17 e17 => ?_)
              exact UP.ret (r := some (.int z17.1)) rfl ⟨by subst e17; first | (dsimp only [F_ccopy_32]; done) | (dsimp only; done) | rfl, by subst e17; first | (dsimp only [F_ccopy_32]; done) | (dsimp only; done) | rfl⟩
            · skip
              refine UP.ifF rfl cc ?_
              refine UP.stp 3 (i1 := 47) (L1 := [some (.ref 0), some (.int 3), some (.int i), some (.int 2), some (.int j), some (.int n), some (.ref 121), some (.ref 119)]) (st1 := [.int n, .int j, .ref 119]) (s1 := s) rfl ?_
              refine UP.cI (M1 := m_X3_hasRange) (as := [.ref 119, .int j, .int n]) (rest := []) (T := F_hasRange_2 s j n) rfl rfl (ux_hasRange_2 s j n) ?_
              refine UP.spl (m_cmp .ne (F_hasRange_2 s j n) 0) ((1, (mvs s 122 i.toNatClampNeg 120 j.toNatClampNeg n.toNatClampNeg))) (let z21 := F_find s 2; z21) (by first | (dsimp only [F_ccopy_32]; done) | (dsimp only; done) | rfl) (fun cc => ?_) (fun cc => ?_)
              · skip
                refine UP.ifT rfl cc ?_
                refine UP.stp 9 (i1 := 62) (L1 := [some (.ref 0), some (.int 3), some (.int i), some (.int 2), some (.int j), some (.int n), some (.ref 121), some (.ref 119)]) (st1 := [.int 1]) (s1 := (mvs s 122 i.toNatClampNeg 120 j.toNatClampNeg n.toNatClampNeg)) rfl ?_
                exact UP.ret (r := some (.int 1)) rfl ⟨by first | (dsimp only [F_ccopy_32]; done) | (dsimp only; done) | rfl, by first | (dsimp only [F_ccopy_32]; done) | (dsimp only; done) | rfl⟩
              · skip
                refine UP.ifF rfl cc ?_
                refine UP.stp 2 (i1 := 51) (L1 := [some (.ref 0), some (.int 3), some (.int i), some (.int 2), some (.int j), some (.int n), some (.ref 121), some (.ref 119)]) (st1 := [.int 2, .ref 0]) (s1 := s) rfl ?_
                refine UP.cB (M1 := m_X6_find) (as := [.ref 0, .int 2]) (rest := []) (T := F_find s 2) rfl rfl (ux_find s 2) (fun z21 e21 => ?_)
                exact UP.ret (r := some (.int z21.1)) rfl ⟨by subst e21; first | (dsimp only [F_ccopy_32]; done) | (dsimp only; done) | rfl, by subst e21; first | (dsimp only [F_ccopy_32]; done) | (dsimp only; done) | rfl⟩
          · skip
            refine UP.icF rfl cc ?_
            refine UP.stp 2 (i1 := 37) (L1 := [some (.ref 0), some (.int 3), some (.int i), some (.int 2), some (.int j), some (.int n), some (.ref 121), some (.ref 119)]) (st1 := [.int 4, .ref 0]) (s1 := s) rfl ?_
            refine UP.cB (M1 := m_X6_find) (as := [.ref 0, .int 4]) (rest := []) (T := F_find s 4) rfl rfl (ux_find s 4) (fun z22 e22 => ?_)
            exact UP.ret (r := some (.int z22.1)) rfl ⟨by subst e22; first | (dsimp only [F_ccopy_32]; done) | (dsimp only; done) | rfl, by subst e22; first | (dsimp only [F_ccopy_32]; done) | (dsimp only; done) | rfl⟩
        · skip
          refine UP.ifF rfl cc ?_
          refine UP.stp 2 (i1 := 28) (L1 := [some (.ref 0), some (.int 3), some (.int i), some (.int 2), some (.int j), some (.int n), some (.ref 121), some (.ref 119)]) (st1 := [.int 1, .ref 0]) (s1 := s) rfl ?_
          refine UP.cB (M1 := m_X6_find) (as := [.ref 0, .int 1]) (rest := []) (T := F_find s 1) rfl rfl (ux_find s 1) (fun z23 e23 => ?_)
          exact UP.ret (r := some (.int z23.1)) rfl ⟨by subst e23; first | (dsimp only [F_ccopy_32]; done) | (dsimp only; done) | rfl, by subst e23; first | (dsimp only [F_ccopy_32]; done) | (dsimp only; done) | rfl⟩
    · skip
      refine UP.ifF rfl cc ?_
      refine UP.stp 1 (i1 := 9) (L1 := [some (.ref 0), some (.int 3), some (.int i), some (.int 2), some (.int j), some (.int n), none, none]) (st1 := [.int (-2)]) (s1 := s) rfl ?_
      exact UP.ret (r := some (.int (-2))) rfl ⟨by first | (dsimp only [F_ccopy_32]; done) | (dsimp only; done) | rfl, by first | (dsimp only [F_ccopy_32]; done) | (dsimp only; done) | rfl⟩
end
section
def W_ccopy_33 : List (Nat × Nat × Option Nat) := [(122, 122, none), (0, 0, some 4)]
def F_ccopy_33 (s : SG) (i : Int32) (j : Int32) (n : Int32) : Int32 × SG := bif m_cmp .eq (F_isBelow s 3 4) 0 then (((-2), s)) else (bif m_cmp .ne (F_isBelow s 3 4) 0 then (bif m_cmp .ne (s 121 1) 0 then (let z9 := F_find s 1; z9) else (bif m_cmp .eq (s 121 1) 0 then (bif m_cmp .eq (s 121 2) (s 121 2) then (bif m_cmp .eq (F_hasRange_3 s i n) 0 then (let z17 := F_find s 2; z17) else (bif m_cmp .ne (F_hasRange_3 s j n) 0 then ((1, (mvs s 122 i.toNatClampNeg 122 j.toNatClampNeg n.toNatClampNeg))) else (let z21 := F_find s 2; z21))) else (let z22 := F_find s 4; z22)) else (let z23 := F_find s 1; z23))) else (((-2), s)))
set_option maxRecDepth 20000 in
set_option maxHeartbeats 200000 in
theorem fr_ccopy_33 (s : SG) (i : Int32) (j : Int32) (n : Int32)  : Fr W_ccopy_33 s (F_ccopy_33 s i j n).2 := by dsimp only [F_ccopy_33]; exact (Fr.bifp (b := m_cmp .eq (F_isBelow s 3 4) 0) (x := ((-2), s)) (y := bif m_cmp .ne (F_isBelow s 3 4) 0 then (bif m_cmp .ne (s 121 1) 0 then (let z9 := F_find s 1; z9) else (bif m_cmp .eq (s 121 1) 0 then (bif m_cmp .eq (s 121 2) (s 121 2) then (bif m_cmp .eq (F_hasRange_3 s i n) 0 then (let z17 := F_find s 2; z17) else (bif m_cmp .ne (F_hasRange_3 s j n) 0 then ((1, (mvs s 122 i.toNatClampNeg 122 j.toNatClampNeg n.toNatClampNeg))) else (let z21 := F_find s 2; z21))) else (let z22 := F_find s 4; z22)) else (let z23 := F_find s 1; z23))) else (((-2), s))) (fun x : Int32 × SG => x.2) (by (try dsimp only); exact (Fr.rf _ _)) (by (try dsimp only); exact (Fr.bifp (b := m_cmp .ne (F_isBelow s 3 4) 0) (x := bif m_cmp .ne (s 121 1) 0 then (let z9 := F_find s 1; z9) else (bif m_cmp .eq (s 121 1) 0 then (bif m_cmp .eq (s 121 2) (s 121 2) then (bif m_cmp .eq (F_hasRange_3 s i n) 0 then (let z17 := F_find s 2; z17) else (bif m_cmp .ne (F_hasRange_3 s j n) 0 then ((1, (mvs s 122 i.toNatClampNeg 122 j.toNatClampNeg n.toNatClampNeg))) else (let z21 := F_find s 2; z21))) else (let z22 := F_find s 4; z22)) else (let z23 := F_find s 1; z23))) (y := ((-2), s)) (fun x : Int32 × SG => x.2) (by (try dsimp only); exact (Fr.bifp (b := m_cmp .ne (s 121 1) 0) (x := let z9 := F_find s 1; z9) (y := bif m_cmp .eq (s 121 1) 0 then (bif m_cmp .eq (s 121 2) (s 121 2) then (bif m_cmp .eq (F_hasRange_3 s i n) 0 then (let z17 := F_find s 2; z17) else (bif m_cmp .ne (F_hasRange_3 s j n) 0 then ((1, (mvs s 122 i.toNatClampNeg 122 j.toNatClampNeg n.toNatClampNeg))) else (let z21 := F_find s 2; z21))) else (let z22 := F_find s 4; z22)) else (let z23 := F_find s 1; z23)) (fun x : Int32 × SG => x.2) (by (try dsimp only); exact (Fr.tr (s1 := s) (Fr.rf _ _) (Fr.wk (W2 := W_ccopy_33) (fr_find s 1) (by rfl)))) (by (try dsimp only); exact (Fr.bifp (b := m_cmp .eq (s 121 1) 0) (x := bif m_cmp .eq (s 121 2) (s 121 2) then (bif m_cmp .eq (F_hasRange_3 s i n) 0 then (let z17 := F_find s 2; z17) else (bif m_cmp .ne (F_hasRange_3 s j n) 0 then ((1, (mvs s 122 i.toNatClampNeg 122 j.toNatClampNeg n.toNatClampNeg))) else (let z21 := F_find s 2; z21))) else (let z22 := F_find s 4; z22)) (y := let z23 := F_find s 1; z23) (fun x : Int32 × SG => x.2) (by (try dsimp only); exact (Fr.bifp (b := m_cmp .eq (s 121 2) (s 121 2)) (x := bif m_cmp .eq (F_hasRange_3 s i n) 0 then (let z17 := F_find s 2; z17) else (bif m_cmp .ne (F_hasRange_3 s j n) 0 then ((1, (mvs s 122 i.toNatClampNeg 122 j.toNatClampNeg n.toNatClampNeg))) else (let z21 := F_find s 2; z21))) (y := let z22 := F_find s 4; z22) (fun x : Int32 × SG => x.2) (by (try dsimp only); exact (Fr.bifp (b := m_cmp .eq (F_hasRange_3 s i n) 0) (x := let z17 := F_find s 2; z17) (y := bif m_cmp .ne (F_hasRange_3 s j n) 0 then ((1, (mvs s 122 i.toNatClampNeg 122 j.toNatClampNeg n.toNatClampNeg))) else (let z21 := F_find s 2; z21)) (fun x : Int32 × SG => x.2) (by (try dsimp only); exact (Fr.tr (s1 := s) (Fr.rf _ _) (Fr.wk (W2 := W_ccopy_33) (fr_find s 2) (by rfl)))) (by (try dsimp only); exact (Fr.bifp (b := m_cmp .ne (F_hasRange_3 s j n) 0) (x := (1, (mvs s 122 i.toNatClampNeg 122 j.toNatClampNeg n.toNatClampNeg))) (y := let z21 := F_find s 2; z21) (fun x : Int32 × SG => x.2) (by (try dsimp only); exact (Fr.mvs (by rfl) (Fr.rf _ _))) (by (try dsimp only); exact (Fr.tr (s1 := s) (Fr.rf _ _) (Fr.wk (W2 := W_ccopy_33) (fr_find s 2) (by rfl)))))))) (by (try dsimp only); exact (Fr.tr (s1 := s) (Fr.rf _ _) (Fr.wk (W2 := W_ccopy_33) (fr_find s 4) (by rfl)))))) (by (try dsimp only); exact (Fr.tr (s1 := s) (Fr.rf _ _) (Fr.wk (W2 := W_ccopy_33) (fr_find s 1) (by rfl)))))))) (by (try dsimp only); exact (Fr.rf _ _)))))
set_option maxRecDepth 20000 in
set_option maxHeartbeats 200000 in
theorem ux_ccopy_33 (s : SG) (i : Int32) (j : Int32) (n : Int32)  : UP m_X6_copy 0 (m_ent 8 [.ref 0, .int 3, .int i, .int 3, .int j, .int n]) [] s (Qb (F_ccopy_33 s i j n)) := by
  refine UP.stp 2 (i1 := 2) (L1 := [some (.ref 0), some (.int 3), some (.int i), some (.int 3), some (.int j), some (.int n), none, none]) (st1 := [.int 4, .int 3]) (s1 := s) rfl ?_
  refine UP.cI (M1 := m_X6_isBelow) (as := [.int 3, .int 4]) (rest := []) (T := F_isBelow s 3 4) rfl rfl (ux_isBelow s 3 4) ?_
  refine UP.spl (m_cmp .eq (F_isBelow s 3 4) 0) (((-2), s)) (bif m_cmp .ne (F_isBelow s 3 4) 0 then (bif m_cmp .ne (s 121 1) 0 then (let z9 := F_find s 1; z9) else (bif m_cmp .eq (s 121 1) 0 then (bif m_cmp .eq (s 121 2) (s 121 2) then (bif m_cmp .eq (F_hasRange_3 s i n) 0 then (let z17 := F_find s 2; z17) else (bif m_cmp .ne (F_hasRange_3 s j n) 0 then ((1, (mvs s 122 i.toNatClampNeg 122 j.toNatClampNeg n.toNatClampNeg))) else (let z21 := F_find s 2; z21))) else (let z22 := F_find s 4; z22)) else (let z23 := F_find s 1; z23))) else (((-2), s))) (by first | (dsimp only [F_ccopy_33]; done) | (dsimp only; done) | rfl) (fun cc => ?_) (fun cc => ?_)
  · skip
    refine UP.ifT rfl cc ?_
    refine UP.stp 1 (i1 := 9) (L1 := [some (.ref 0), some (.int 3), some (.int i), some (.int 3), some (.int j), some (.int n), none, none]) (st1 := [.int (-2)]) (s1 := s) rfl ?_
    exact UP.ret (r := some (.int (-2))) rfl ⟨by first | (dsimp only [F_ccopy_33]; done) | (dsimp only; done) | rfl, by first | (dsimp only [F_ccopy_33]; done) | (dsimp only; done) | rfl⟩
  · skip
    refine UP.ifF rfl cc ?_
    refine UP.stp 2 (i1 := 6) (L1 := [some (.ref 0), some (.int 3), some (.int i), some (.int 3), some (.int j), some (.int n), none, none]) (st1 := [.int 4, .int 3]) (s1 := s) rfl ?_
    refine UP.cI (M1 := m_X6_isBelow) (as := [.int 3, .int 4]) (rest := []) (T := F_isBelow s 3 4) rfl rfl (ux_isBelow s 3 4) ?_
    refine UP.spl (m_cmp .ne (F_isBelow s 3 4) 0) (bif m_cmp .ne (s 121 1) 0 then (let z9 := F_find s 1; z9) else (bif m_cmp .eq (s 121 1) 0 then (bif m_cmp .eq (s 121 2) (s 121 2) then (bif m_cmp .eq (F_hasRange_3 s i n) 0 then (let z17 := F_find s 2; z17) else (bif m_cmp .ne (F_hasRange_3 s j n) 0 then ((1, (mvs s 122 i.toNatClampNeg 122 j.toNatClampNeg n.toNatClampNeg))) else (let z21 := F_find s 2; z21))) else (let z22 := F_find s 4; z22)) else (let z23 := F_find s 1; z23))) (((-2), s)) (by first | (dsimp only [F_ccopy_33]; done) | (dsimp only; done) | rfl) (fun cc => ?_) (fun cc => ?_)
    · skip
      refine UP.ifT rfl cc ?_
      refine UP.stp 3 (i1 := 13) (L1 := [some (.ref 0), some (.int 3), some (.int i), some (.int 3), some (.int j), some (.int n), none, none]) (st1 := [.int 3, .ref 9]) (s1 := s) rfl ?_
      refine UP.aald (e := 3) (r := 121) rfl rfl (by omega) rfl ?_
      refine UP.stp 4 (i1 := 18) (L1 := [some (.ref 0), some (.int 3), some (.int i), some (.int 3), some (.int j), some (.int n), some (.ref 121), none]) (st1 := [.int 3, .ref 9]) (s1 := s) rfl ?_
      refine UP.aald (e := 3) (r := 121) rfl rfl (by omega) rfl ?_
      refine UP.stp 3 (i1 := 22) (L1 := [some (.ref 0), some (.int 3), some (.int i), some (.int 3), some (.int j), some (.int n), some (.ref 121), some (.ref 121)]) (st1 := [.int (s 121 1)]) (s1 := s) rfl ?_
      refine UP.spl (m_cmp .ne (s 121 1) 0) (let z9 := F_find s 1; z9) (bif m_cmp .eq (s 121 1) 0 then (bif m_cmp .eq (s 121 2) (s 121 2) then (bif m_cmp .eq (F_hasRange_3 s i n) 0 then (let z17 := F_find s 2; z17) else (bif m_cmp .ne (F_hasRange_3 s j n) 0 then ((1, (mvs s 122 i.toNatClampNeg 122 j.toNatClampNeg n.toNatClampNeg))) else (let z21 := F_find s 2; z21))) else (let z22 := F_find s 4; z22)) else (let z23 := F_find s 1; z23)) (by first | (dsimp only [F_ccopy_33]; done) | (dsimp only; done) | rfl) (fun cc => ?_) (fun cc => ?_)
      · skip
        refine UP.ifT rfl cc ?_
        refine UP.stp 2 (i1 := 28) (L1 := [some (.ref 0), some (.int 3), some (.int i), some (.int 3), some (.int j), some (.int n), some (.ref 121), some (.ref 121)]) (st1 := [.int 1, .ref 0]) (s1 := s) rfl ?_
        refine UP.cB (M1 := m_X6_find) (as := [.ref 0, .int 1]) (rest := []) (T := F_find s 1) rfl rfl (ux_find s 1) (fun z9 e9 => ?_)
        exact UP.ret (r := some (.int z9.1)) rfl ⟨by subst e9; first | (dsimp only [F_ccopy_33]; done) | (dsimp only; done) | rfl, by subst e9; first | (dsimp only [F_ccopy_33]; done) | (dsimp only; done) | rfl⟩
      · skip
        refine UP.ifF rfl cc ?_
        refine UP.stp 2 (i1 := 25) (L1 := [some (.ref 0), some (.int 3), some (.int i), some (.int 3), some (.int j), some (.int n), some (.ref 121), some (.ref 121)]) (st1 := [.int (s 121 1)]) (s1 := s) rfl ?_
        refine UP.spl (m_cmp .eq (s 121 1) 0) (bif m_cmp .eq (s 121 2) (s 121 2) then (bif m_cmp .eq (F_hasRange_3 s i n) 0 then (let z17 := F_find s 2; z17) else (bif m_cmp .ne (F_hasRange_3 s j n) 0 then ((1, (mvs s 122 i.toNatClampNeg 122 j.toNatClampNeg n.toNatClampNeg))) else (let z21 := F_find s 2; z21))) else (let z22 := F_find s 4; z22)) (let z23 := F_find s 1; z23) (by first | (dsimp only [F_ccopy_33]; done) | (dsimp only; done) | rfl) (fun cc => ?_) (fun cc => ?_)
        · skip
          refine UP.ifT rfl cc ?_
          refine UP.stp 4 (i1 := 34) (L1 := [some (.ref 0), some (.int 3), some (.int i), some (.int 3), some (.int j), some (.int n), some (.ref 121), some (.ref 121)]) (st1 := [.int (s 121 2), .int (s 121 2)]) (s1 := s) rfl ?_
          refine UP.spl (m_cmp .eq (s 121 2) (s 121 2)) (bif m_cmp .eq (F_hasRange_3 s i n) 0 then (let z17 := F_find s 2; z17) else (bif m_cmp .ne (F_hasRange_3 s j n) 0 then ((1, (mvs s 122 i.toNatClampNeg 122 j.toNatClampNeg n.toNatClampNeg))) else (let z21 := F_find s 2; z21))) (let z22 := F_find s 4; z22) (by first | (dsimp only [F_ccopy_33]; done) | (dsimp only; done) | rfl) (fun cc => ?_) (fun cc => ?_)
          · skip
            refine UP.icT rfl cc ?_
            refine UP.stp 3 (i1 := 42) (L1 := [some (.ref 0), some (.int 3), some (.int i), some (.int 3), some (.int j), some (.int n), some (.ref 121), some (.ref 121)]) (st1 := [.int n, .int i, .ref 121]) (s1 := s) rfl ?_
            refine UP.cI (M1 := m_X3_hasRange) (as := [.ref 121, .int i, .int n]) (rest := []) (T := F_hasRange_3 s i n) rfl rfl (ux_hasRange_3 s i n) ?_
            refine UP.spl (m_cmp .eq (F_hasRange_3 s i n) 0) (let z17 := F_find s 2; z17) (bif m_cmp .ne (F_hasRange_3 s j n) 0 then ((1, (mvs s 122 i.toNatClampNeg 122 j.toNatClampNeg n.toNatClampNeg))) else (let z21 := F_find s 2; z21)) (by first | (dsimp only [F_ccopy_33]; done) | (dsimp only; done) | rfl) (fun cc => ?_) (fun cc => ?_)
            · skip
              refine UP.ifT rfl cc ?_
              refine UP.stp 2 (i1 := 51) (L1 := [some (.ref 0), some (.int 3), some (.int i), some (.int 3), some (.int j), some (.int n), some (.ref 121), some (.ref 121)]) (st1 := [.int 2, .ref 0]) (s1 := s) rfl ?_
              refine UP.cB (M1 := m_X6_find) (as := [.ref 0, .int 2]) (rest := []) (T := F_find s 2) rfl rfl (ux_find s 2) (fun z17 e17 => ?_)
              exact UP.ret (r := some (.int z17.1)) rfl ⟨by subst e17; first | (dsimp only [F_ccopy_33]; done) | (dsimp only; done) | rfl, by subst e17; first | (dsimp only [F_ccopy_33]; done) | (dsimp only; done) | rfl⟩
            · skip
              refine UP.ifF rfl cc ?_
              refine UP.stp 3 (i1 := 47) (L1 := [some (.ref 0), some (.int 3), some (.int i), some (.int 3), some (.int j), some (.int n), some (.ref 121), some (.ref 121)]) (st1 := [.int n, .int j, .ref 121]) (s1 := s) rfl ?_
              refine UP.cI (M1 := m_X3_hasRange) (as := [.ref 121, .int j, .int n]) (rest := []) (T := F_hasRange_3 s j n) rfl rfl (ux_hasRange_3 s j n) ?_
              refine UP.spl (m_cmp .ne (F_hasRange_3 s j n) 0) ((1, (mvs s 122 i.toNatClampNeg 122 j.toNatClampNeg n.toNatClampNeg))) (let z21 := F_find s 2; z21) (by first | (dsimp only [F_ccopy_33]; done) | (dsimp only; done) | rfl) (fun cc => ?_) (fun cc => ?_)
              · skip
                refine UP.ifT rfl cc ?_
                refine UP.stp 9 (i1 := 62) (L1 := [some (.ref 0), some (.int 3), some (.int i), some (.int 3), some (.int j), some (.int n), some (.ref 121), some (.ref 121)]) (st1 := [.int 1]) (s1 := (mvs s 122 i.toNatClampNeg 122 j.toNatClampNeg n.toNatClampNeg)) rfl ?_
                exact UP.ret (r := some (.int 1)) rfl ⟨by first | (dsimp only [F_ccopy_33]; done) | (dsimp only; done) | rfl, by first | (dsimp only [F_ccopy_33]; done) | (dsimp only; done) | rfl⟩
              · skip
                refine UP.ifF rfl cc ?_
                refine UP.stp 2 (i1 := 51) (L1 := [some (.ref 0), some (.int 3), some (.int i), some (.int 3), some (.int j), some (.int n), some (.ref 121), some (.ref 121)]) (st1 := [.int 2, .ref 0]) (s1 := s) rfl ?_
                refine UP.cB (M1 := m_X6_find) (as := [.ref 0, .int 2]) (rest := []) (T := F_find s 2) rfl rfl (ux_find s 2) (fun z21 e21 => ?_)
                exact UP.ret (r := some (.int z21.1)) rfl ⟨by subst e21; first | (dsimp only [F_ccopy_33]; done) | (dsimp only; done) | rfl, by subst e21; first | (dsimp only [F_ccopy_33]; done) | (dsimp only; done) | rfl⟩
          · skip
            refine UP.icF rfl cc ?_
            refine UP.stp 2 (i1 := 37) (L1 := [some (.ref 0), some (.int 3), some (.int i), some (.int 3), some (.int j), some (.int n), some (.ref 121), some (.ref 121)]) (st1 := [.int 4, .ref 0]) (s1 := s) rfl ?_
            refine UP.cB (M1 := m_X6_find) (as := [.ref 0, .int 4]) (rest := []) (T := F_find s 4) rfl rfl (ux_find s 4) (fun z22 e22 => ?_)
            exact UP.ret (r := some (.int z22.1)) rfl ⟨by subst e22; first | (dsimp only [F_ccopy_33]; done) | (dsimp only; done) | rfl, by subst e22; first | (dsimp only [F_ccopy_33]; done) | (dsimp only; done) | rfl⟩
        · skip
          refine UP.ifF rfl cc ?_
          refine UP.stp 2 (i1 := 28) (L1 := [some (.ref 0), some (.int 3), some (.int i), some (.int 3), some (.int j), some (.int n), some (.ref 121), some (.ref 121)]) (st1 := [.int 1, .ref 0]) (s1 := s) rfl ?_
          refine UP.cB (M1 := m_X6_find) (as := [.ref 0, .int 1]) (rest := []) (T := F_find s 1) rfl rfl (ux_find s 1) (fun z23 e23 => ?_)
          exact UP.ret (r := some (.int z23.1)) rfl ⟨by subst e23; first | (dsimp only [F_ccopy_33]; done) | (dsimp only; done) | rfl, by subst e23; first | (dsimp only [F_ccopy_33]; done) | (dsimp only; done) | rfl⟩
    · skip
      refine UP.ifF rfl cc ?_
      refine UP.stp 1 (i1 := 9) (L1 := [some (.ref 0), some (.int 3), some (.int i), some (.int 3), some (.int j), some (.int n), none, none]) (st1 := [.int (-2)]) (s1 := s) rfl ?_
      exact UP.ret (r := some (.int (-2))) rfl ⟨by first | (dsimp only [F_ccopy_33]; done) | (dsimp only; done) | rfl, by first | (dsimp only [F_ccopy_33]; done) | (dsimp only; done) | rfl⟩
end
section
/-! THE TRIP, told purely -/
abbrev NI : Type := Nat → Int32
theorem itr_succ {α : Type} (f : Nat → α → α) : ∀ (n lo : Nat) (a : α), itr f lo (n + 1) a = f (lo + n) (itr f lo n a)
  | 0, _, _ => rfl
  | n + 1, lo, a => by
    show itr f (lo + 1) (n + 1) (f lo a) = f (lo + (n + 1)) (itr f (lo + 1) n (f lo a))
    rw [itr_succ f n (lo + 1) (f lo a), show lo + 1 + n = lo + (n + 1) by omega]
theorem itr_0 {α : Type} (f : Nat → α → α) (n : Nat) (a : α) : itr f 0 (n + 1) a = f n (itr f 0 n a) := by
  rw [itr_succ, Nat.zero_add]
theorem itr_ind {α : Type} {f : Nat → α → α} {a : α} (I : Nat → α → Prop) (hi : Nat) (h0 : I 0 a) (hs : ∀ i x, i < hi → I i x → I (i + 1) (f i x)) : ∀ n, n ≤ hi → I n (itr f 0 n a)
  | 0, _ => h0
  | n + 1, hn => by
    rw [itr_0]
    exact hs n _ (by omega) (itr_ind I hi h0 hs n (by omega))
/-- what befalls in a minute: crabs, aside, flood -/
def bstep (K Mi Nu : NI) (off : Nat → Bool) (t e : Nat) (x : Int32 × Int32 × Int32) : Int32 × Int32 × Int32 :=
  bif m_cmp .ne (Mi e) (Int32.ofNat t) then x else (bif off e then x else
    (x.1 ||| (bif m_cmp .ne (K e) 0 then (0 : Int32) else 1 <<< (Nu e &&& 31)), x.2.1 + (bif m_cmp .ne (K e) 1 then (0 : Int32) else (bif m_cmp .ne (Nu e - Nu e / 2 * 2) 1 then (-2 : Int32) else (2 : Int32))), x.2.2 + (bif m_cmp .ne (K e) 2 then (0 : Int32) else (3 : Int32))))
def bef (n : Nat) (K Mi Nu : NI) (off : Nat → Bool) (t : Nat) : Int32 × Int32 × Int32 := itr (bstep K Mi Nu off t) 0 n (0, 0, 0)
def offM (s : SG) (e : Nat) : Bool := m_cmp .ne (F_isIn s (s 123 17) (Int32.ofNat e)) 0
def befM (s : SG) (t : Nat) : Int32 × Int32 × Int32 := bef (s 123 11).toNatClampNeg (s 130) (s 131) (s 132) (offM s) t
theorem m_bef (s : SG) (t : Nat) : (F_befalls s t 123 25, F_befalls s t 123 26, F_befalls s t 123 27) = befM s t := by
  have key : ∀ i, Fr W_befalls s (itr (B_befalls_11 t) 0 i (uset (uset (uset s 123 25 0) 123 26 0) 123 27 0)) ∧ (itr (B_befalls_11 t) 0 i (uset (uset (uset s 123 25 0) 123 26 0) 123 27 0) 123 25, itr (B_befalls_11 t) 0 i (uset (uset (uset s 123 25 0) 123 26 0) 123 27 0) 123 26, itr (B_befalls_11 t) 0 i (uset (uset (uset s 123 25 0) 123 26 0) 123 27 0) 123 27) = itr (bstep (s 130) (s 131) (s 132) (offM s) t) 0 i (0, 0, 0) := by
    intro i
    induction i with
    | zero => exact ⟨Fr.uset rfl (Fr.uset rfl (Fr.uset rfl (Fr.rf _ _))), rfl⟩
    | succ i ih =>
      obtain ⟨f, e⟩ := ih
      rw [itr_0, itr_0, ← e]
      generalize itr (B_befalls_11 t) 0 i (uset (uset (uset s 123 25 0) 123 26 0) 123 27 0) = a at f
      refine ⟨f.tr (fr_B_befalls_11 t i a), ?_⟩
      unfold B_befalls_11 bstep offM
      rw [f 131 i rfl, f 130 i rfl, f 132 i rfl, f 123 17 rfl]
      show _ = (bif m_cmp .ne (s 131 i) (Int32.ofNat t) then _ else (bif m_cmp .ne (F_isIn a (s 123 17) (Int32.ofNat i)) 0 then _ else _))
      cases m_cmp .ne (s 131 i) (Int32.ofNat t)
      · cases m_cmp .ne (F_isIn a (s 123 17) (Int32.ofNat i)) 0
        · rfl
        · rfl
      · rfl
  exact (key _).2
theorem and_one (x : Int32) : x &&& 1 = 0 ∨ x &&& 1 = 1 := by
  have h : (x &&& 1).toBitVec = x.toBitVec &&& 1#32 := rfl
  have h2 : (x.toBitVec &&& 1#32).toNat = x.toBitVec.toNat % 2 := by
    rw [BitVec.toNat_and]
    exact Nat.and_one_is_mod _
  rcases Nat.mod_two_eq_zero_or_one x.toBitVec.toNat with e | e
  · left
    apply Int32.toBitVec_inj.mp
    apply BitVec.eq_of_toNat_eq
    rw [h, h2, e]
    rfl
  · right
    apply Int32.toBitVec_inj.mp
    apply BitVec.eq_of_toNat_eq
    rw [h, h2, e]
    rfl
theorem isIn_bit (s : SG) (b k : Int32) : m_cmp .ne (F_isIn s b k) 0 = m_cmp .ne ((b >>> (k &&& 31)) &&& 1) 0 := by
  show m_cmp .ne (bif m_cmp .ne ((b >>> (k &&& 31)) &&& 1) 1 then (0 : Int32) else (1 : Int32)) 0 = _
  rcases and_one (b >>> (k &&& 31)) with e | e
  · rw [e]
    rfl
  · rw [e]
    rfl
/-- who sits where, how strong; rates, rudder; stream, home; what befalls -/
abbrev TI : Type := Nat × NI × NI × NI × NI × NI × Int32 × Int32 × (Nat → Int32 × Int32 × Int32)
abbrev jn (J : TI) : Nat := J.1
abbrev jso (J : TI) : NI := J.2.1
abbrev jpo (J : TI) : NI := J.2.2.1
abbrev jse (J : TI) : NI := J.2.2.2.1
abbrev jra (J : TI) : NI := J.2.2.2.2.1
abbrev jru (J : TI) : NI := J.2.2.2.2.2.1
abbrev jst (J : TI) : Int32 := J.2.2.2.2.2.2.1
abbrev jho (J : TI) : Int32 := J.2.2.2.2.2.2.2.1
abbrev jbe (J : TI) : Nat → Int32 × Int32 × Int32 := J.2.2.2.2.2.2.2.2
def frs (so po : Int32) : Int32 := bif m_cmp .ne so 1 then (bif m_cmp .ne so 2 then po else po - 1) else po + 2
def ltr (so po : Int32) : Int32 := bif m_cmp .ne so 1 then (bif m_cmp .ne so 2 then po else po + 1) else po - 1
def pby (so po mn : Int32) : Int32 := bif m_cmp .ge mn 6 then ltr so po else frs so po
/-- metres, place, there, minutes and sums of each -/
abbrev TS : Type := Int32 × Int32 × Int32 × NI × NI
abbrev sme (x : TS) : Int32 := x.1
abbrev spl' (x : TS) : Int32 := x.2.1
abbrev sth (x : TS) : Int32 := x.2.2.1
abbrev smn (x : TS) : NI := x.2.2.2.1
abbrev ssm (x : TS) : NI := x.2.2.2.2
def pon (J : TI) (t : Nat) (x : TS) (k : Nat) : Bool := bif m_cmp .ne (sth x) (-1) then false else (bif m_cmp .le (jra J t) 0 then false else (bif m_cmp .ne (((jbe J t).1 >>> (jse J k &&& 31)) &&& 1) 0 then false else true))
def pul (J : TI) (t : Nat) (x : TS) (k : Nat) : Int32 := bif pon J t x k then pby (jso J k) (jpo J k) (smn x k) else 0
def lstep (J : TI) (t : Nat) (x : TS) (k : Nat) (y : Int32 × Int32) : Int32 × Int32 := bif m_cmp .ne (jse J k - jse J k / 2 * 2) 0 then (y.1, y.2 + pul J t x k) else (y.1 + pul J t x k, y.2)
def lrs (J : TI) (t : Nat) (x : TS) (i : Nat) : Int32 × Int32 := itr (lstep J t x) 0 i (0, 0)
def mn' (J : TI) (t : Nat) (x : TS) (k : Nat) : Int32 := bif pon J t x k then smn x k + 1 else smn x k
def sm' (J : TI) (t : Nat) (x : TS) (k : Nat) : Int32 := bif pon J t x k then ssm x k + pul J t x k else ssm x k
/-- where the boat would come to -/
def beh (J : TI) (t : Nat) (x : TS) : Int32 := ((spl' x + (jra J t * ((lrs J t x (jn J)).1 - (lrs J t x (jn J)).2)) / 6) + (bif m_cmp .ne (jru J t) 2 then (bif m_cmp .ne (jru J t) 1 then (0 : Int32) else (-1 : Int32)) else (1 : Int32))) + (jbe J t).2.1
def grd (J : TI) (t : Nat) (x : TS) : Bool := bif m_cmp .le (beh J t x) 0 then true else m_cmp .ge (beh J t x) 20
def pl' (J : TI) (t : Nat) (x : TS) : Int32 := bif m_cmp .le (beh J t x) 0 then 0 else (bif m_cmp .ge (beh J t x) 20 then 20 else beh J t x)
def way (J : TI) (t : Nat) (x : TS) : Int32 := (jra J t * (((lrs J t x (jn J)).1 + (lrs J t x (jn J)).2) / 2) + jst J) + (jbe J t).2.2
def me' (J : TI) (t : Nat) (x : TS) : Int32 := sme x + (bif grd J t x then way J t x / 2 else way J t x)
def gr' (J : TI) (t : Nat) (x : TS) : Int32 := bif m_cmp .ne (sth x) (-1) then 0 else (bif grd J t x then 1 else 0)
def tst (J : TI) (t : Nat) (x : TS) : TS := (bif m_cmp .ne (sth x) (-1) then sme x else me' J t x, bif m_cmp .ne (sth x) (-1) then spl' x else pl' J t x, bif m_cmp .ne (sth x) (-1) then sth x else (bif m_cmp .lt (me' J t x) (jho J) then -1 else Int32.ofNat t), mn' J t x, sm' J t x)
def trip (J : TI) : Nat → TS
  | 0 => (0, 10, -1, fun _ => 0, fun _ => 0)
  | t + 1 => tst J t (trip J t)
def gma (J : TI) (i : Nat) : Int32 := itr (fun t x => x + gr' J t (trip J t)) 0 i 0
def gfi (J : TI) (i : Nat) : Int32 := itr (fun t x => bif m_cmp .eq (gr' J t (trip J t)) 0 then x else (bif m_cmp .ne x (-1) then x else Int32.ofNat t)) 0 i (-1)
def offP (p : Int32) : Int32 := bif m_cmp .ge p 10 then p - 10 else 10 - p
def far (J : TI) (i : Nat) : Int32 := itr (fun t x => bif m_cmp .le (offP (spl' (trip J (t + 1)))) x then x else offP (spl' (trip J (t + 1)))) 0 i 0
/-! the model -/
def inM (s : SG) : TI := ((s 123 2).toNatClampNeg, s 126, s 127, s 135, s 133, s 134, s 123 9, s 123 10, befM s)
theorem pby_m (so po mn : Int32) : po + (bif m_cmp .ne so 1 then (bif m_cmp .ne so 2 then (0 : Int32) else (bif m_cmp .eq (bif m_cmp .ge mn 6 then (0 : Int32) else (1 : Int32)) 0 then (1 : Int32) else (-1 : Int32))) else (bif m_cmp .eq (bif m_cmp .ge mn 6 then (0 : Int32) else (1 : Int32)) 0 then (-1 : Int32) else (2 : Int32))) = pby so po mn := by
  unfold pby frs ltr
  have e : po + (-1) = po - 1 := by rw [Int32.sub_eq_add_neg]
  cases m_cmp .ne so 1
  · cases m_cmp .ge mn 6
    · rfl
    · exact e
  · cases m_cmp .ne so 2
    · cases m_cmp .ge mn 6
      · exact e
      · rfl
    · cases m_cmp .ge mn 6
      · exact Int32.add_zero _
      · exact Int32.add_zero _
theorem par8 : ∀ j, j < 8 → (Int32.ofNat j - Int32.ofNat j / 2 * 2 = 0 ∨ Int32.ofNat j - Int32.ofNat j / 2 * 2 = 1) := by decide
theorem idx8 {t k : Nat} (ht : t < 24) (hk : k < 8) : ((8 * Int32.ofNat t) + Int32.ofNat k).toNatClampNeg = 8 * t + k := by
  rw [show (8 * Int32.ofNat t) + Int32.ofNat k = Int32.ofNat (8 * t + k) from ofn_add (ofn_mul rfl rfl) rfl]
  exact Int32.toNatClampNeg_ofNat_of_lt (by omega)
/-- what the loop over the rowers comes to -/
def LoM (s : SG) (t : Nat) (x : TS) (i : Nat) (a : SG) : Prop := Fr W_goes s a ∧ a 123 19 = s 123 19 ∧ a 123 20 = s 123 20 ∧ a 123 22 = s 123 22 ∧ a 123 23 = s 123 23 ∧ a 142 = s 142 ∧ a 136 0 = (lrs (inM s) t x i).1 ∧ a 136 1 = (lrs (inM s) t x i).2 ∧ ∀ k, k < 8 → (a 137 k = if k < i then mn' (inM s) t x k else s 137 k) ∧ (a 138 k = if k < i then sm' (inM s) t x k else s 138 k) ∧ (a 143 (8 * t + k) = if k < i then pul (inM s) t x k else s 143 (8 * t + k))
theorem loM {s : SG} {t : Nat} {x : TS} (ht : t < 24) (hn : (s 123 2).toNatClampNeg ≤ 8) (hb : ((s 123 25, s 123 26, s 123 27) : Int32 × Int32 × Int32) = befM s t) (hth : s 123 21 = sth x) (h1 : sth x = -1) (hs0 : s 136 0 = 0) (hs1 : s 136 1 = 0) (hse : ∀ k, k < 8 → ∃ j, j < 8 ∧ s 135 k = Int32.ofNat j) (hmn : ∀ k, k < (s 123 2).toNatClampNeg → s 137 k = smn x k) (hsm : ∀ k, k < (s 123 2).toNatClampNeg → s 138 k = ssm x k) (hp0 : ∀ k, k < 8 → s 143 (8 * t + k) = 0) : ∀ i, i ≤ (s 123 2).toNatClampNeg → LoM s t x i (itr (B_goes_7 t (s 133 t)) 0 i s) := by
  refine itr_ind (LoM s t x) _ ?_ ?_
  · refine ⟨Fr.rf _ _, rfl, rfl, rfl, rfl, rfl, hs0, hs1, fun k _ => ⟨?_, ?_, ?_⟩⟩ <;> rw [if_neg (by omega)]
  · intro i a hi h
    obtain ⟨f, a1, a2, a3, a4, a5, a6, a7, a8⟩ := h
    have hi8 : i < 8 := by omega
    have e25 : s 123 25 = (befM s t).1 := by rw [← hb]
    have f25 : a 123 25 = (befM s t).1 := by rw [f 123 25 rfl]; exact e25
    have f135 : a 135 i = s 135 i := f 135 i rfl
    have hpon : pon (inM s) t x i = bif m_cmp .le (s 133 t) 0 then false else (bif m_cmp .ne ((((befM s t).1) >>> (s 135 i &&& 31)) &&& 1) 0 then false else true) := by
      unfold pon
      rw [h1]
      rfl
    have hl : lrs (inM s) t x (i + 1) = lstep (inM s) t x i (lrs (inM s) t x i) := itr_0 _ _ _
    have hfr : Fr W_goes s (B_goes_7 t (s 133 t) i a) := f.tr (fr_B_goes_7 t (s 133 t) i a)
    cases hon : pon (inM s) t x i with
    | false =>
      have hB : B_goes_7 t (s 133 t) i a = a := by
        unfold B_goes_7
        rw [hon] at hpon
        dsimp only
        rw [isIn_bit, f25, f135]
        cases c1 : m_cmp .le (s 133 t) 0 with
        | true => rfl
        | false =>
          rw [c1] at hpon
          cases c2 : m_cmp .ne ((((befM s t).1) >>> (s 135 i &&& 31)) &&& 1) 0 with
          | true => rfl
          | false =>
            rw [c2] at hpon
            cases hpon
      have hp : pul (inM s) t x i = 0 := by unfold pul; rw [hon]; rfl
      have hl2 : lrs (inM s) t x (i + 1) = lrs (inM s) t x i := by
        rw [hl]
        unfold lstep
        rw [hp, Int32.add_zero, Int32.add_zero]
        cases m_cmp .ne (jse (inM s) i - jse (inM s) i / 2 * 2) 0 <;> rfl
      rw [hB]
      refine ⟨f, a1, a2, a3, a4, a5, by rw [hl2]; exact a6, by rw [hl2]; exact a7, fun k hk => ?_⟩
      obtain ⟨b1, b2, b3⟩ := a8 k hk
      by_cases e : k = i
      · subst e
        rw [if_neg (by omega)] at b1 b2 b3
        rw [if_pos (by omega), if_pos (by omega), if_pos (by omega), b1, b2, b3]
        refine ⟨?_, ?_, ?_⟩
        · unfold mn'; rw [hon]; exact hmn k hi
        · unfold sm'; rw [hon]; exact hsm k hi
        · rw [hp]; exact hp0 k hk
      · by_cases e2 : k < i
        · rw [if_pos e2] at b1 b2 b3
          rw [if_pos (by omega), if_pos (by omega), if_pos (by omega)]
          exact ⟨b1, b2, b3⟩
        · rw [if_neg e2] at b1 b2 b3
          rw [if_neg (by omega), if_neg (by omega), if_neg (by omega)]
          exact ⟨b1, b2, b3⟩
    | true =>
      have hB : B_goes_7 t (s 133 t) i a = F_pullsOne a t i := by
        unfold B_goes_7
        rw [hon] at hpon
        dsimp only
        rw [isIn_bit, f25, f135]
        cases c1 : m_cmp .le (s 133 t) 0 with
        | true => rw [c1] at hpon; cases hpon
        | false =>
          rw [c1] at hpon
          cases c2 : m_cmp .ne ((((befM s t).1) >>> (s 135 i &&& 31)) &&& 1) 0 with
          | true => rw [c2] at hpon; cases hpon
          | false => rfl
      obtain ⟨b1, b2, b3⟩ := a8 i hi8
      rw [if_neg (by omega)] at b1 b2 b3
      have hp : pul (inM s) t x i = pby (s 126 i) (s 127 i) (a 137 i) := by
        unfold pul
        rw [hon, b1, hmn i hi]
        rfl
      have e126 : a 126 i = s 126 i := f 126 i rfl
      have e127 : a 127 i = s 127 i := f 127 i rfl
      obtain ⟨j, hj, ej⟩ := hse i hi8
      have hF : F_pullsOne a t i = uset (uset (uset (uset a 143 (8 * t + i) (pul (inM s) t x i)) 137 i (a 137 i + 1)) 138 i (a 138 i + pul (inM s) t x i)) 136 (s 135 i - s 135 i / 2 * 2).toNatClampNeg (a 136 (s 135 i - s 135 i / 2 * 2).toNatClampNeg + pul (inM s) t x i) := by
        rw [hp, ← e126, ← e127, ← pby_m, ← idx8 ht hi8, ← f135]
        rfl
      rw [hB] at hfr ⊢
      rw [hF] at hfr ⊢
      have hmi : mn' (inM s) t x i = a 137 i + 1 := by unfold mn'; rw [hon, b1, hmn i hi]; rfl
      have hsi : sm' (inM s) t x i = a 138 i + pul (inM s) t x i := by unfold sm'; rw [hon, b2, hsm i hi]; rfl
      refine ⟨hfr, a1, a2, a3, a4, a5, ?_, ?_, fun k hk => ⟨?_, ?_, ?_⟩⟩
      · rw [hl]
        unfold lstep
        show uset _ 136 (s 135 i - s 135 i / 2 * 2).toNatClampNeg _ 136 0 = (bif m_cmp .ne (s 135 i - s 135 i / 2 * 2) 0 then _ else _ : Int32 × Int32).1
        rw [ej]
        rcases par8 j hj with e | e
        · rw [e]
          show a 136 0 + _ = _
          rw [a6]
          rfl
        · rw [e]
          show a 136 0 = _
          rw [a6]
          rfl
      · rw [hl]
        unfold lstep
        show uset _ 136 (s 135 i - s 135 i / 2 * 2).toNatClampNeg _ 136 1 = (bif m_cmp .ne (s 135 i - s 135 i / 2 * 2) 0 then _ else _ : Int32 × Int32).2
        rw [ej]
        rcases par8 j hj with e | e
        · rw [e]
          show a 136 1 = _
          rw [a7]
          rfl
        · rw [e]
          show a 136 1 + _ = _
          rw [a7]
          rfl
      · show uset a 137 i (a 137 i + 1) 137 k = _
        by_cases e : k = i
        · subst e
          rw [uset_eq, if_pos (by omega), hmi]
        · rw [uset_nj e, (a8 k hk).1]
          by_cases e2 : k < i
          · rw [if_pos e2, if_pos (by omega)]
          · rw [if_neg e2, if_neg (by omega)]
      · show uset a 138 i (a 138 i + pul (inM s) t x i) 138 k = _
        by_cases e : k = i
        · subst e
          rw [uset_eq, if_pos (by omega), hsi]
        · rw [uset_nj e, (a8 k hk).2.1]
          by_cases e2 : k < i
          · rw [if_pos e2, if_pos (by omega)]
          · rw [if_neg e2, if_neg (by omega)]
      · show uset a 143 (8 * t + i) (pul (inM s) t x i) 143 (8 * t + k) = _
        by_cases e : k = i
        · subst e
          rw [uset_eq, if_pos (by omega)]
        · rw [uset_nj (by omega), (a8 k hk).2.2]
          by_cases e2 : k < i
          · rw [if_pos e2, if_pos (by omega)]
          · rw [if_neg e2, if_neg (by omega)]
theorem neg_bm (y : Int32) (h : -2147483648 < y.toInt) : (-y).toInt = -y.toInt := by
  rw [Int32.toInt_neg]
  have h1 := i32_le y
  exact Int.bmod_eq_of_le (by omega) (by omega)
theorem drift (ra d : Int32) (h : -2147483648 < (ra * d).toInt) : -((ra * (-d)) / 6) = (ra * d) / 6 := by
  rw [Int32.mul_neg]
  generalize ra * d = y at h
  apply Int32.toInt_inj.mp
  have e6 : (6 : Int32).toInt = 6 := by decide
  have q : (-y / 6).toInt = -(y.toInt.tdiv 6) := by
    rw [Int32.toInt_div_of_ne_right _ _ (by decide), neg_bm y h, e6, Int.neg_tdiv]
  have q2 : (y / 6).toInt = y.toInt.tdiv 6 := by rw [Int32.toInt_div_of_ne_right _ _ (by decide), e6]
  have b := i32_le (y / 6)
  rw [q2] at b
  rw [neg_bm (-y / 6) (by rw [q]; omega), q, q2]
  omega
theorem mle_iff {x y : Int32} : m_cmp .le x y = true ↔ x.toInt ≤ y.toInt := ⟨fun h => Int32.le_iff_toInt_le.mp (of_decide_eq_true h), fun h => decide_eq_true (Int32.le_iff_toInt_le.mpr h)⟩
def grdB (b : Int32) : Bool := bif m_cmp .le b 0 then true else m_cmp .ge b 20
theorem lt_ge (x y : Int32) : m_cmp .lt x y = !(m_cmp .ge x y) := by
  cases c : m_cmp .ge x y with
  | true =>
    have h1 := m_ge_iff.mp c
    cases d : m_cmp .lt x y with
    | true =>
      have := m_lt_iff.mp d
      omega
    | false => rfl
  | false =>
    have h1 := m_ff m_ge_iff c
    exact m_lt_iff.mpr (by omega)
theorem ground_eq' (b : Int32) : m_cmp .eq (bif m_cmp .le b 0 then (1 : Int32) else (bif m_cmp .lt b 20 then (0 : Int32) else (1 : Int32))) 0 = !(grdB b) := by
  unfold grdB
  rw [lt_ge]
  cases m_cmp .le b 0
  · cases m_cmp .ge b 20 <;> rfl
  · rfl
theorem clampE (b : Int32) : (bif m_cmp .ge b 0 then (bif m_cmp .le b 20 then b else (20 : Int32)) else (0 : Int32)) = (bif m_cmp .le b 0 then 0 else (bif m_cmp .ge b 20 then 20 else b)) := by
  have hz : (0 : Int32).toInt = 0 := by decide
  have hw : (20 : Int32).toInt = 20 := by decide
  cases c1 : m_cmp .le b 0 with
  | true =>
    have d1 := mle_iff.mp c1
    cases c2 : m_cmp .ge b 0 with
    | true =>
      have d2 := m_ge_iff.mp c2
      have e : b = 0 := Int32.toInt_inj.mp (by omega)
      subst e
      rfl
    | false => rfl
  | false =>
    have d1 := m_ff mle_iff c1
    have c2 : m_cmp .ge b 0 = true := m_ge_iff.mpr (by omega)
    rw [c2]
    cases c3 : m_cmp .ge b 20 with
    | true =>
      have d3 := m_ge_iff.mp c3
      cases c4 : m_cmp .le b 20 with
      | true =>
        have d4 := mle_iff.mp c4
        have e : b = 20 := Int32.toInt_inj.mp (by omega)
        subst e
        rfl
      | false => rfl
    | false =>
      have d3 := m_ff m_ge_iff c3
      have c4 : m_cmp .le b 20 = true := mle_iff.mpr (by omega)
      rw [c4]
      rfl
theorem ground_eq (J : TI) (t : Nat) (x : TS) : m_cmp .eq (bif m_cmp .le (beh J t x) 0 then (1 : Int32) else (bif m_cmp .lt (beh J t x) 20 then (0 : Int32) else (1 : Int32))) 0 = !(grd J t x) := ground_eq' _
/-- what a minute comes to, as the model has it -/
def GoM (s : SG) (t : Nat) (x : TS) (g : SG) : Prop := Fr W_goes s g ∧ g 123 19 = me' (inM s) t x ∧ g 123 20 = pl' (inM s) t x ∧ g 123 21 = (bif m_cmp .lt (me' (inM s) t x) (s 123 10) then -1 else Int32.ofNat t) ∧ (∀ k, g 142 k = if k = t then gr' (inM s) t x else s 142 k) ∧ g 123 22 = s 123 22 + gr' (inM s) t x ∧ g 123 23 = (bif m_cmp .eq (gr' (inM s) t x) 0 then s 123 23 else (bif m_cmp .ne (s 123 23) (-1) then s 123 23 else Int32.ofNat t)) ∧ g 136 0 = (lrs (inM s) t x (jn (inM s))).1 ∧ g 136 1 = (lrs (inM s) t x (jn (inM s))).2 ∧ ∀ k, k < (s 123 2).toNatClampNeg → g 137 k = mn' (inM s) t x k ∧ g 138 k = sm' (inM s) t x k ∧ g 143 (8 * t + k) = pul (inM s) t x k
theorem goM {s : SG} {t : Nat} {x : TS} (ht : t < 24) (hn : (s 123 2).toNatClampNeg ≤ 8) (hb : ((s 123 25, s 123 26, s 123 27) : Int32 × Int32 × Int32) = befM s t) (hth : s 123 21 = sth x) (h1 : sth x = -1) (hs0 : s 136 0 = 0) (hs1 : s 136 1 = 0) (hse : ∀ k, k < 8 → ∃ j, j < 8 ∧ s 135 k = Int32.ofNat j) (hmn : ∀ k, k < (s 123 2).toNatClampNeg → s 137 k = smn x k) (hsm : ∀ k, k < (s 123 2).toNatClampNeg → s 138 k = ssm x k) (hp0 : ∀ k, k < 8 → s 143 (8 * t + k) = 0) (hme : s 123 19 = sme x) (hpl : s 123 20 = spl' x) (hov : -2147483648 < (s 133 t * ((lrs (inM s) t x (jn (inM s))).1 - (lrs (inM s) t x (jn (inM s))).2)).toInt) : GoM s t x (F_goes s t) := by
  have L := loM ht hn hb hth h1 hs0 hs1 hse hmn hsm hp0 _ (Nat.le_refl _)
  obtain ⟨f, a1, a2, a3, a4, a5, a6, a7, a8⟩ := L
  have hfr := fr_goes s t
  have e9 : itr (B_goes_7 t (s 133 t)) 0 (s 123 2).toNatClampNeg s 123 9 = s 123 9 := f 123 9 rfl
  have e10 : itr (B_goes_7 t (s 133 t)) 0 (s 123 2).toNatClampNeg s 123 10 = s 123 10 := f 123 10 rfl
  have e26 : itr (B_goes_7 t (s 133 t)) 0 (s 123 2).toNatClampNeg s 123 26 = (befM s t).2.1 := (f 123 26 rfl).trans (by rw [← hb])
  have e27 : itr (B_goes_7 t (s 133 t)) 0 (s 123 2).toNatClampNeg s 123 27 = (befM s t).2.2 := (f 123 27 rfl).trans (by rw [← hb])
  have e134 : itr (B_goes_7 t (s 133 t)) 0 (s 123 2).toNatClampNeg s 134 t = s 134 t := f 134 t rfl
  unfold F_goes at hfr ⊢
  dsimp only at hfr ⊢
  generalize itr (B_goes_7 t (s 133 t)) 0 (s 123 2).toNatClampNeg s = z at *
  have a6 : z 136 0 = (lrs (inM s) t x (jn (inM s))).1 := a6
  have a7 : z 136 1 = (lrs (inM s) t x (jn (inM s))).2 := a7
  have hdr : (bif m_cmp .le (z 136 0 - z 136 1) 0 then -((s 133 t * (-(z 136 0 - z 136 1))) / 6) else (s 133 t * (z 136 0 - z 136 1)) / 6) = (s 133 t * ((lrs (inM s) t x (jn (inM s))).1 - (lrs (inM s) t x (jn (inM s))).2)) / 6 := by
    rw [a6, a7, drift _ _ hov]
    cases m_cmp .le _ (0 : Int32) <;> rfl
  have hbe : ((z 123 20 + (bif m_cmp .le (z 136 0 - z 136 1) 0 then -((s 133 t * (-(z 136 0 - z 136 1))) / 6) else (s 133 t * (z 136 0 - z 136 1)) / 6)) + (bif m_cmp .ne (z 134 t) 2 then (bif m_cmp .ne (z 134 t) 1 then (0 : Int32) else (-1 : Int32)) else (1 : Int32))) + z 123 26 = beh (inM s) t x := by
    rw [hdr, a2, hpl, e134, e26]
    rfl
  have hwy : ((s 133 t * ((z 136 0 + z 136 1) / 2)) + z 123 9) + z 123 27 = way (inM s) t x := by
    rw [a6, a7, e9, e27]
    rfl
  have hgr : gr' (inM s) t x = (bif grd (inM s) t x then 1 else 0) := by
    unfold gr'
    rw [h1]
    rfl
  rw [hbe, hwy, ground_eq, clampE]
  have hg : m_cmp .eq (gr' (inM s) t x) 0 = !(grd (inM s) t x) := by
    rw [hgr]
    cases grd (inM s) t x <;> rfl
  have hv21 : (bif !(grd (inM s) t x) then (0 : Int32) else (1 : Int32)) = gr' (inM s) t x := by
    rw [hgr]
    cases grd (inM s) t x <;> rfl
  have hv19 : (bif !(grd (inM s) t x) then way (inM s) t x else way (inM s) t x / 2) = (bif grd (inM s) t x then way (inM s) t x / 2 else way (inM s) t x) := by
    cases grd (inM s) t x <;> rfl
  have hm : z 123 19 + (bif !(grd (inM s) t x) then way (inM s) t x else way (inM s) t x / 2) = me' (inM s) t x := by
    rw [hv19, a1, hme]
    rfl
  rw [hbe, hwy, ground_eq, clampE] at hfr
  refine ⟨hfr, hm, rfl, ?_, fun k => ?_, ?_, ?_, a6, a7, fun k hk => ?_⟩
  · show (bif m_cmp .lt (z 123 19 + _) (z 123 10) then (-1 : Int32) else Int32.ofNat t) = _
    rw [hm, e10]
  · show (if 142 = 142 ∧ k = t then (bif !(grd (inM s) t x) then (0 : Int32) else (1 : Int32)) else z 142 k) = _
    rw [hv21]
    by_cases e : k = t
    · rw [if_pos ⟨rfl, e⟩, if_pos e]
    · rw [if_neg (fun q => e q.2), if_neg e, a5]
  · show z 123 22 + (if 142 = 142 ∧ t = t then (bif !(grd (inM s) t x) then (0 : Int32) else (1 : Int32)) else z 142 t) = _
    rw [if_pos ⟨rfl, rfl⟩, hv21, a3]
  · show (bif !(grd (inM s) t x) then z 123 23 else (bif m_cmp .ne (z 123 23) (-1) then z 123 23 else Int32.ofNat t)) = _
    rw [hg, a4]
  · obtain ⟨b1, b2, b3⟩ := a8 k (by omega)
    rw [if_pos hk] at b1 b2 b3
    exact ⟨b1, b2, b3⟩
/-! the model's minutes, one after the other -/
def goB (s : SG) (t : Nat) : SG := itr (B_goesBy_20 t) 0 8 (uset (uset (uset (F_befalls s t) 136 0 0) 136 1 0) 142 t 0)
theorem goB_sp (s : SG) (t : Nat) : Fr W_goesBy s (goB s t) ∧ (goB s t) 136 0 = 0 ∧ (goB s t) 136 1 = 0 ∧ (goB s t) 142 t = 0 ∧ (∀ k, k ≠ t → (goB s t) 142 k = s 142 k) ∧ (∀ k, k < 8 → (goB s t) 143 (8 * t + k) = 0) ∧ (∀ j, ¬ (8 * t ≤ j ∧ j < 8 * t + 8) → (goB s t) 143 j = s 143 j) ∧ (∀ a j, a ≠ 143 → (goB s t) a j = uset (uset (uset (F_befalls s t) 136 0 0) 136 1 0) 142 t 0 a j) := by
  have key : ∀ i, i ≤ 8 → (∀ k, k < i → itr (B_goesBy_20 t) 0 i (uset (uset (uset (F_befalls s t) 136 0 0) 136 1 0) 142 t 0) 143 (8 * t + k) = 0) ∧ (∀ j, ¬ (8 * t ≤ j ∧ j < 8 * t + i) → itr (B_goesBy_20 t) 0 i (uset (uset (uset (F_befalls s t) 136 0 0) 136 1 0) 142 t 0) 143 j = F_befalls s t 143 j) ∧ (∀ a j, a ≠ 143 → itr (B_goesBy_20 t) 0 i (uset (uset (uset (F_befalls s t) 136 0 0) 136 1 0) 142 t 0) a j = uset (uset (uset (F_befalls s t) 136 0 0) 136 1 0) 142 t 0 a j) := by
    intro i
    induction i with
    | zero => exact fun _ => ⟨fun k hk => absurd hk (by omega), fun j _ => rfl, fun a j _ => rfl⟩
    | succ i ih =>
      intro hi
      obtain ⟨h1, h2, h3⟩ := ih (by omega)
      rw [itr_0]
      generalize itr (B_goesBy_20 t) 0 i (uset (uset (uset (F_befalls s t) 136 0 0) 136 1 0) 142 t 0) = a at *
      have e : B_goesBy_20 t i a = uset a 143 (8 * t + i) 0 := rfl
      rw [e]
      refine ⟨fun k hk => ?_, fun j hj => ?_, fun b j hb => ?_⟩
      · by_cases q : k = i
        · subst q
          exact uset_eq _ _ _ _
        · rw [uset_nj (by omega)]
          exact h1 k (by omega)
      · rw [uset_nj (by omega)]
        exact h2 j (by omega)
      · rw [uset_na hb]
        exact h3 b j hb
  obtain ⟨h1, h2, h3⟩ := key 8 (Nat.le_refl _)
  have fb := fr_befalls s t
  refine ⟨?_, ?_, ?_, ?_, fun k hk => ?_, h1, fun j hj => (h2 j hj).trans (fb 143 j rfl), h3⟩
  · exact frItrB (W := W_goesBy) (m := fun x : SG => x) (f := B_goesBy_20 t) 8 (fun i a h => Fr.uset (by rfl) (Fr.rf _ _)) 8 0 _ (by omega) (Fr.uset (by rfl) (Fr.uset (by rfl) (Fr.uset (by rfl) (Fr.wk fb (by rfl)))))
  · exact h3 136 0 (by decide)
  · exact h3 136 1 (by decide)
  · exact (h3 142 t (by decide)).trans (uset_eq _ _ _ _)
  · exact (h3 142 k (by decide)).trans ((uset_nj hk).trans (fb 142 k rfl))
end
section
/-! the model's whole trip -/
theorem befM_fr {s a : SG} (f : Fr W_runs s a) : befM a = befM s := by
  funext t
  have h11 : a 123 11 = s 123 11 := f 123 11 rfl
  have h30 : a 130 = s 130 := funext (fun j => f 130 j rfl)
  have h31 : a 131 = s 131 := funext (fun j => f 131 j rfl)
  have h32 : a 132 = s 132 := funext (fun j => f 132 j rfl)
  have hof : offM a = offM s := by
    funext e
    unfold offM
    rw [f 123 17 rfl]
    rfl
  unfold befM
  rw [h11, h30, h31, h32, hof]
theorem inM_fr {s a : SG} (f : Fr W_runs s a) : inM a = inM s := by
  have h26 : a 126 = s 126 := funext (fun j => f 126 j rfl)
  have h27 : a 127 = s 127 := funext (fun j => f 127 j rfl)
  have h35 : a 135 = s 135 := funext (fun j => f 135 j rfl)
  have h33 : a 133 = s 133 := funext (fun j => f 133 j rfl)
  have h34 : a 134 = s 134 := funext (fun j => f 134 j rfl)
  unfold inM
  rw [f 123 2 rfl, h26, h27, h35, h33, h34, f 123 9 rfl, f 123 10 rfl, befM_fr f]
theorem lrs_off {J : TI} {t : Nat} {x : TS} (h : ∀ k, pon J t x k = false) : ∀ i, lrs J t x i = (0, 0) := by
  intro i
  induction i with
  | zero => rfl
  | succ i ih =>
    have e : lrs J t x (i + 1) = lstep J t x i (lrs J t x i) := itr_0 _ _ _
    have hp : pul J t x i = 0 := by unfold pul; rw [h i]; rfl
    rw [e, ih]
    unfold lstep
    rw [hp]
    cases m_cmp .ne (jse J i - jse J i / 2 * 2) 0 <;> rfl
/-- one minute more -/
def OuM (J : TI) (i : Nat) (a : SG) : Prop := ∀ t, t < i → a 139 t = sme (trip J (t + 1)) ∧ a 140 t = spl' (trip J (t + 1)) ∧ a 141 (2 * t) = (lrs J t (trip J t) (jn J)).1 ∧ a 141 (2 * t + 1) = (lrs J t (trip J t) (jn J)).2 ∧ a 142 t = gr' J t (trip J t) ∧ ∀ k, k < jn J → a 143 (8 * t + k) = pul J t (trip J t) k
def RuM (s : SG) (i : Nat) (a : SG) : Prop := Fr W_runs s a ∧ a 123 19 = sme (trip (inM s) i) ∧ a 123 20 = spl' (trip (inM s) i) ∧ a 123 21 = sth (trip (inM s) i) ∧ a 123 22 = gma (inM s) i ∧ a 123 23 = gfi (inM s) i ∧ a 123 24 = far (inM s) i ∧ (∀ k, k < jn (inM s) → a 137 k = smn (trip (inM s) i) k ∧ a 138 k = ssm (trip (inM s) i) k) ∧ OuM (inM s) i a
def ovJ (J : TI) : Prop := ∀ t, t < 24 → -2147483648 < (jra J t * ((lrs J t (trip J t) (jn J)).1 - (lrs J t (trip J t) (jn J)).2)).toInt
/-- what a minute changes, whether the boat is there or not -/
def MiM (b : SG) (J : TI) (t : Nat) (x : TS) (g : SG) : Prop := g 123 19 = sme (tst J t x) ∧ g 123 20 = spl' (tst J t x) ∧ g 123 21 = sth (tst J t x) ∧ (∀ k, g 142 k = if k = t then gr' J t x else b 142 k) ∧ g 123 22 = b 123 22 + gr' J t x ∧ g 123 23 = (bif m_cmp .eq (gr' J t x) 0 then b 123 23 else (bif m_cmp .ne (b 123 23) (-1) then b 123 23 else Int32.ofNat t)) ∧ g 136 0 = (lrs J t x (jn J)).1 ∧ g 136 1 = (lrs J t x (jn J)).2 ∧ ∀ k, k < jn J → g 137 k = smn (tst J t x) k ∧ g 138 k = ssm (tst J t x) k ∧ g 143 (8 * t + k) = pul J t x k
theorem miM {s a : SG} {t : Nat} (ht : t < 24) (hn : (s 123 2).toNatClampNeg ≤ 8) (hse : ∀ k, k < 8 → ∃ j, j < 8 ∧ s 135 k = Int32.ofNat j) (hov : ovJ (inM s)) (h : RuM s t a) : MiM a (inM s) t (trip (inM s) t) (bif m_cmp .ne (goB a t 123 21) (-1) then goB a t else F_goes (goB a t) t) := by
  obtain ⟨f, r1, r2, r3, r4, r5, r6, r7, -⟩ := h
  obtain ⟨g0, g1, g2, g3, g4, g5, g6, g7⟩ := goB_sp a t
  have fb := fr_befalls a t
  have fg : Fr W_runs s (goB a t) := f.tr (Fr.wk g0 (by rfl))
  have hJ : inM (goB a t) = inM s := inM_fr fg
  have hbe : befM (goB a t) = befM s := befM_fr fg
  have hba : befM a = befM s := befM_fr f
  have q : ∀ k, k ≠ 25 → k ≠ 26 → k ≠ 27 → goB a t 123 k = a 123 k := fun k h1 h2 h3 => by
    rw [g7 123 k (by decide)]
    show F_befalls a t 123 k = a 123 k
    refine fb 123 k ?_
    unfold inW W_befalls
    simp only [List.any_cons, List.any_nil]
    have e1 : (25 == k) = false := by simpa using fun e => h1 e.symm
    have e2 : (26 == k) = false := by simpa using fun e => h2 e.symm
    have e3 : (27 == k) = false := by simpa using fun e => h3 e.symm
    rw [e1, e2, e3]
    rfl
  have q137 : ∀ k, goB a t 137 k = a 137 k := fun k => (g7 137 k (by decide)).trans (fb 137 k rfl)
  have q138 : ∀ k, goB a t 138 k = a 138 k := fun k => (g7 138 k (by decide)).trans (fb 138 k rfl)
  have q21 : goB a t 123 21 = sth (trip (inM s) t) := (q 21 (by decide) (by decide) (by decide)).trans r3
  rw [q21]
  cases c : m_cmp .ne (sth (trip (inM s) t)) (-1) with
  | true =>
    have hoff : ∀ k, pon (inM s) t (trip (inM s) t) k = false := fun k => by unfold pon; rw [c]; rfl
    have hl := lrs_off hoff (jn (inM s))
    have hgr : gr' (inM s) t (trip (inM s) t) = 0 := by unfold gr'; rw [c]; rfl
    have hpu : ∀ k, pul (inM s) t (trip (inM s) t) k = 0 := fun k => by unfold pul; rw [hoff k]; rfl
    show MiM a (inM s) t (trip (inM s) t) (goB a t)
    refine ⟨?_, ?_, ?_, fun k => ?_, ?_, ?_, by rw [hl]; exact g1, by rw [hl]; exact g2, fun k hk => ⟨?_, ?_, ?_⟩⟩
    · rw [q 19 (by decide) (by decide) (by decide), r1]
      show _ = (bif m_cmp .ne (sth (trip (inM s) t)) (-1) then _ else _)
      rw [c]
      rfl
    · rw [q 20 (by decide) (by decide) (by decide), r2]
      show _ = (bif m_cmp .ne (sth (trip (inM s) t)) (-1) then _ else _)
      rw [c]
      rfl
    · rw [q21]
      show _ = (bif m_cmp .ne (sth (trip (inM s) t)) (-1) then _ else _)
      rw [c]
      rfl
    · rw [hgr]
      by_cases e : k = t
      · rw [if_pos e, e]
        exact g3
      · rw [if_neg e]
        exact g4 k e
    · rw [hgr, q 22 (by decide) (by decide) (by decide), Int32.add_zero]
    · rw [hgr, q 23 (by decide) (by decide) (by decide)]
      rfl
    · rw [q137, (r7 k hk).1]
      show _ = mn' (inM s) t (trip (inM s) t) k
      unfold mn'
      rw [hoff k]
      rfl
    · rw [q138, (r7 k hk).2]
      show _ = sm' (inM s) t (trip (inM s) t) k
      unfold sm'
      rw [hoff k]
      rfl
    · rw [hpu]
      exact g5 k (by have hk : k < (s 123 2).toNatClampNeg := hk; omega)
  | false =>
    have h1 : sth (trip (inM s) t) = -1 := by
      have := m_ff m_ne_iff c
      exact Decidable.of_not_not this
    have n2 : goB a t 123 2 = s 123 2 := fg 123 2 rfl
    have hb : ((goB a t 123 25, goB a t 123 26, goB a t 123 27) : Int32 × Int32 × Int32) = befM (goB a t) t := by
      rw [hbe, ← hba, ← m_bef]
      rw [g7 123 25 (by decide), g7 123 26 (by decide), g7 123 27 (by decide)]
      rfl
    have G := goM (s := goB a t) (x := trip (inM s) t) ht (by rw [n2]; exact hn) hb q21 h1 g1 g2 (fun k hk => by rw [fg 135 k rfl]; exact hse k hk) (fun k hk => by rw [n2] at hk; rw [q137]; exact (r7 k hk).1) (fun k hk => by rw [n2] at hk; rw [q138]; exact (r7 k hk).2) g5 ((q 19 (by decide) (by decide) (by decide)).trans r1) ((q 20 (by decide) (by decide) (by decide)).trans r2) (by rw [hJ, fg 133 t rfl]; exact hov t ht)
    obtain ⟨-, k1, k2, k3, k4, k5, k6, k7, k8, k9⟩ := G
    rw [hJ] at k1 k2 k3 k4 k5 k6 k7 k8 k9
    rw [n2] at k9
    show MiM a (inM s) t (trip (inM s) t) (F_goes (goB a t) t)
    refine ⟨?_, ?_, ?_, fun k => ?_, ?_, ?_, k7, k8, fun k hk => ?_⟩
    · rw [k1]
      show _ = (bif m_cmp .ne (sth (trip (inM s) t)) (-1) then _ else _)
      rw [c]
      rfl
    · rw [k2]
      show _ = (bif m_cmp .ne (sth (trip (inM s) t)) (-1) then _ else _)
      rw [c]
      rfl
    · rw [k3, fg 123 10 rfl]
      show _ = (bif m_cmp .ne (sth (trip (inM s) t)) (-1) then _ else _)
      rw [c]
      rfl
    · rw [k4 k]
      by_cases e : k = t
      · rw [if_pos e, if_pos e]
      · rw [if_neg e, if_neg e]
        exact g4 k e
    · rw [k5, q 22 (by decide) (by decide) (by decide)]
    · rw [k6, q 23 (by decide) (by decide) (by decide)]
    · exact k9 k hk
end
section
theorem gma_s (J : TI) (i : Nat) : gma J (i + 1) = gma J i + gr' J i (trip J i) := by
  unfold gma
  rw [itr_0]
theorem gfi_s (J : TI) (i : Nat) : gfi J (i + 1) = (bif m_cmp .eq (gr' J i (trip J i)) 0 then gfi J i else (bif m_cmp .ne (gfi J i) (-1) then gfi J i else Int32.ofNat i)) := by
  unfold gfi
  rw [itr_0]
theorem far_s (J : TI) (i : Nat) : far J (i + 1) = (bif m_cmp .le (offP (spl' (tst J i (trip J i)))) (far J i) then far J i else offP (spl' (tst J i (trip J i)))) := by
  unfold far
  rw [itr_0]
  rfl
theorem go143 {s : SG} {t : Nat} (ht : t < 24) (hn : (s 123 2).toNatClampNeg ≤ 8) (j : Nat) (hj : ¬ (8 * t ≤ j ∧ j < 8 * t + 8)) : F_goes s t 143 j = s 143 j := by
  have key : ∀ i, i ≤ (s 123 2).toNatClampNeg → (itr (B_goes_7 t (s 133 t)) 0 i s) 143 j = s 143 j := by
    refine itr_ind (fun (_ : Nat) (a : SG) => a 143 j = s 143 j) _ rfl ?_
    intro i a hi h
    have h : a 143 j = s 143 j := h
    show B_goes_7 t (s 133 t) i a 143 j = s 143 j
    unfold B_goes_7
    cases m_cmp .le (s 133 t) 0
    · cases m_cmp .ne (F_isIn a (a 123 25) (a 135 i)) 0
      · show uset a 143 ((8 * Int32.ofNat t) + Int32.ofNat i).toNatClampNeg _ 143 j = s 143 j
        rw [idx8 ht (by omega), uset_nj (by omega)]
        exact h
      · exact h
    · exact h
  exact key _ (Nat.le_refl _)
def vM (a : SG) (t : Nat) : SG := bif m_cmp .ne (goB a t 123 21) (-1) then goB a t else F_goes (goB a t) t
theorem vM_fr {a : SG} {t : Nat} (ht : t < 24) (hn : (a 123 2).toNatClampNeg ≤ 8) : (∀ b j, b = 139 ∨ b = 140 ∨ b = 141 → vM a t b j = a b j) ∧ vM a t 123 24 = a 123 24 ∧ ∀ j, ¬ (8 * t ≤ j ∧ j < 8 * t + 8) → vM a t 143 j = a 143 j := by
  obtain ⟨g0, g1, g2, g3, g4, g5, g6, g7⟩ := goB_sp a t
  have fb := fr_befalls a t
  have q : ∀ b j, b = 139 ∨ b = 140 ∨ b = 141 → goB a t b j = a b j := fun b j h => by
    rcases h with rfl | rfl | rfl
    · exact (g7 139 j (by decide)).trans (fb 139 j rfl)
    · exact (g7 140 j (by decide)).trans (fb 140 j rfl)
    · exact (g7 141 j (by decide)).trans (fb 141 j rfl)
  have q24 : goB a t 123 24 = a 123 24 := (g7 123 24 (by decide)).trans (fb 123 24 rfl)
  have n2 : goB a t 123 2 = a 123 2 := g0 123 2 rfl
  have fg := fr_goes (goB a t) t
  unfold vM
  cases m_cmp .ne (goB a t 123 21) (-1)
  · refine ⟨fun b j h => ?_, (fg 123 24 rfl).trans q24, fun j hj => (go143 ht (by rw [n2]; exact hn) j hj).trans (g6 j hj)⟩
    rcases h with rfl | rfl | rfl
    · exact (fg 139 j rfl).trans (q 139 j (by decide))
    · exact (fg 140 j rfl).trans (q 140 j (by decide))
    · exact (fg 141 j rfl).trans (q 141 j (by decide))
  · exact ⟨q, q24, g6⟩
theorem ruM_s {s a : SG} {t : Nat} (ht : t < 24) (hn : (s 123 2).toNatClampNeg ≤ 8) (hse : ∀ k, k < 8 → ∃ j, j < 8 ∧ s 135 k = Int32.ofNat j) (hov : ovJ (inM s)) (h : RuM s t a) : RuM s (t + 1) (F_goesBy a t) := by
  have M : MiM a (inM s) t (trip (inM s) t) (vM a t) := miM ht hn hse hov h
  obtain ⟨f, r1, r2, r3, r4, r5, r6, r7, r8⟩ := h
  have na : a 123 2 = s 123 2 := f 123 2 rfl
  obtain ⟨w1, w2, w3⟩ := vM_fr (a := a) ht (by rw [na]; exact hn)
  have hfr := fr_goesBy a t
  have e : F_goesBy a t = uset (uset (uset (uset (uset (vM a t) 139 t (vM a t 123 19)) 140 t (vM a t 123 20)) 141 (2 * t) (vM a t 136 0)) 141 (2 * t + 1) (vM a t 136 1)) 123 24 (bif m_cmp .le (offP (vM a t 123 20)) (vM a t 123 24) then vM a t 123 24 else offP (vM a t 123 20)) := rfl
  rw [e] at hfr ⊢
  generalize vM a t = v at *
  obtain ⟨m1, m2, m3, m4, m5, m6, m7, m8, m9⟩ := M
  have hn8 : jn (inM s) ≤ 8 := hn
  refine ⟨f.tr (Fr.wk hfr (by rfl)), m1, m2, m3, ?_, ?_, ?_, fun k hk => ⟨(m9 k hk).1, (m9 k hk).2.1⟩, fun t2 ht2 => ?_⟩
  · show v 123 22 = gma (inM s) (t + 1)
    rw [m5, r4, gma_s]
  · show v 123 23 = gfi (inM s) (t + 1)
    rw [m6, r5, gfi_s]
  · show (bif m_cmp .le (offP (v 123 20)) (v 123 24) then v 123 24 else offP (v 123 20)) = far (inM s) (t + 1)
    rw [w2, r6, m2, far_s]
  · by_cases q : t2 = t
    · subst q
      refine ⟨?_, ?_, ?_, ?_, ?_, fun k hk => (m9 k hk).2.2⟩
      · show uset v 139 t2 (v 123 19) 139 t2 = _
        rw [uset_eq, m1]
        rfl
      · show uset (uset v 139 t2 (v 123 19)) 140 t2 (v 123 20) 140 t2 = _
        rw [uset_eq, m2]
        rfl
      · show uset (uset _ 141 (2 * t2) (v 136 0)) 141 (2 * t2 + 1) (v 136 1) 141 (2 * t2) = _
        rw [uset_nj (by omega), uset_eq, m7]
      · show uset _ 141 (2 * t2 + 1) (v 136 1) 141 (2 * t2 + 1) = _
        rw [uset_eq, m8]
      · show v 142 t2 = _
        rw [m4 t2, if_pos rfl]
    · obtain ⟨o1, o2, o3, o4, o5, o6⟩ := r8 t2 (by omega)
      refine ⟨?_, ?_, ?_, ?_, ?_, fun k hk => ?_⟩
      · show uset v 139 t (v 123 19) 139 t2 = _
        rw [uset_nj q, w1 139 t2 (by decide)]
        exact o1
      · show uset (uset v 139 t (v 123 19)) 140 t (v 123 20) 140 t2 = _
        rw [uset_nj q]
        show v 140 t2 = _
        rw [w1 140 t2 (by decide)]
        exact o2
      · show uset (uset (uset (uset v 139 t (v 123 19)) 140 t (v 123 20)) 141 (2 * t) (v 136 0)) 141 (2 * t + 1) (v 136 1) 141 (2 * t2) = _
        rw [uset_nj (by omega), uset_nj (by omega)]
        show v 141 (2 * t2) = _
        rw [w1 141 _ (by decide)]
        exact o3
      · show uset (uset (uset (uset v 139 t (v 123 19)) 140 t (v 123 20)) 141 (2 * t) (v 136 0)) 141 (2 * t + 1) (v 136 1) 141 (2 * t2 + 1) = _
        rw [uset_nj (by omega), uset_nj (by omega)]
        show v 141 (2 * t2 + 1) = _
        rw [w1 141 _ (by decide)]
        exact o4
      · show v 142 t2 = _
        rw [m4 t2, if_neg q]
        exact o5
      · show v 143 (8 * t2 + k) = _
        rw [w3 _ (by omega)]
        exact o6 k hk
def ruB (s : SG) : SG := uset (uset (uset (uset (uset (uset s 123 19 0) 123 20 10) 123 21 (-1)) 123 22 0) 123 23 (-1)) 123 24 0
theorem ru0 (s : SG) : ∀ i, i ≤ 8 → (∀ k, k < i → itr B_runs_20 0 i (ruB s) 137 k = 0 ∧ itr B_runs_20 0 i (ruB s) 138 k = 0) ∧ ∀ b j, b ≠ 137 → b ≠ 138 → itr B_runs_20 0 i (ruB s) b j = ruB s b j := by
  intro i
  induction i with
  | zero => exact fun _ => ⟨fun k hk => absurd hk (by omega), fun b j _ _ => rfl⟩
  | succ i ih =>
    intro hi
    obtain ⟨h1, h2⟩ := ih (by omega)
    rw [itr_0]
    generalize itr B_runs_20 0 i (ruB s) = a at *
    have e : B_runs_20 i a = uset (uset a 137 i 0) 138 i 0 := rfl
    rw [e]
    refine ⟨fun k hk => ?_, fun b j hb hc => ?_⟩
    · by_cases q : k = i
      · subst q
        exact ⟨(uset_na (by decide)).trans (uset_eq _ _ _ _), uset_eq _ _ _ _⟩
      · refine ⟨?_, ?_⟩
        · rw [uset_na (by decide), uset_nj q]
          exact (h1 k (by omega)).1
        · rw [uset_nj q, uset_na (by decide)]
          exact (h1 k (by omega)).2
    · rw [uset_na hc, uset_na hb]
      exact h2 b j hb hc
theorem runM {s : SG} (hn : (s 123 2).toNatClampNeg ≤ 8) (hse : ∀ k, k < 8 → ∃ j, j < 8 ∧ s 135 k = Int32.ofNat j) (hov : ovJ (inM s)) : RuM s 24 (F_runs s) := by
  obtain ⟨h1, h2⟩ := ru0 s 8 (Nat.le_refl _)
  have f0 : Fr W_runs s (itr B_runs_20 0 8 (ruB s)) := frItrB (W := W_runs) (m := fun x : SG => x) (f := B_runs_20) 8 (fun i a h => fr_B_runs_20 i a h) 8 0 _ (by omega) (Fr.uset (by rfl) (Fr.uset (by rfl) (Fr.uset (by rfl) (Fr.uset (by rfl) (Fr.uset (by rfl) (Fr.uset (by rfl) (Fr.rf _ _)))))))
  have k0 : RuM s 0 (itr B_runs_20 0 8 (ruB s)) := by
    have hn8 : jn (inM s) ≤ 8 := hn
    refine ⟨f0, h2 123 19 (by decide) (by decide), h2 123 20 (by decide) (by decide), h2 123 21 (by decide) (by decide), h2 123 22 (by decide) (by decide), h2 123 23 (by decide) (by decide), h2 123 24 (by decide) (by decide), fun k hk => ⟨(h1 k (by omega)).1, (h1 k (by omega)).2⟩, fun t ht => absurd ht (by omega)⟩
  have key := itr_ind (f := B_runs_37) (a := itr B_runs_20 0 8 (ruB s)) (RuM s) 24 k0 (fun i a hi h => ruM_s hi hn hse hov h) 24 (Nat.le_refl _)
  exact key
end
section
/-! the class: what befalls, who pulls (printed by wip/u/mk_row.py) -/
def offC (mask : Int32) (e : Nat) : Bool := !(m_cmp .ne ((mask >>> ((Int32.ofNat e) &&& 31)) &&& 1) 0)
def befC (s : SG) (mask : Int32) (t : Nat) : Int32 × Int32 × Int32 := bef (s 2 3).toNatClampNeg (s 3) (s 4) (s 5) (offC mask) t
/-- the events are such as may be -/
def evC (s : SG) : Prop := ∀ e, e < (s 2 3).toNatClampNeg → (s 3 e = 0 ∨ s 3 e = 1 ∨ s 3 e = 2) ∧ ∃ m, m < 24 ∧ s 4 e = Int32.ofNat m
theorem bit255 : ∀ k, k < 8 → m_cmp .ne (((255 : Int32) >>> ((Int32.ofNat k) &&& 31)) &&& 1) 0 = true := by decide
theorem ofn_inj {m t : Nat} (hm : m < 24) (ht : t < 24) (e : Int32.ofNat m = Int32.ofNat t) : m = t := by
  have h := congrArg Int32.toInt e
  rw [ofn_int (by omega), ofn_int (by omega)] at h
  omega
theorem fil_eq {s : SG} {a n k : Nat} {v : Int32} (h : k < n) : fil s a n v a k = v := if_pos ⟨rfl, h⟩
theorem fil_na {s : SG} {a n b k : Nat} {v : Int32} (h : b ≠ a) : fil s a n v b k = s b k := if_neg (fun q => h q.1)
theorem teC_a (s : SG) (mask : Int32) (hev : evC s) : ∀ t, t < 24 → (F_takeEvents_a s mask 50 t, F_takeEvents_a s mask 51 t, F_takeEvents_a s mask 52 t) = befC s mask t := by
  have key : ∀ i, i ≤ (s 2 3).toNatClampNeg → Fr W_takeEvents_a s (itr (B_takeEvents_a_14 mask) 0 i (fil (fil (fil s 50 24 0) 51 24 0) 52 24 0)) ∧ ∀ t, t < 24 → (itr (B_takeEvents_a_14 mask) 0 i (fil (fil (fil s 50 24 0) 51 24 0) 52 24 0) 50 t, itr (B_takeEvents_a_14 mask) 0 i (fil (fil (fil s 50 24 0) 51 24 0) 52 24 0) 51 t, itr (B_takeEvents_a_14 mask) 0 i (fil (fil (fil s 50 24 0) 51 24 0) 52 24 0) 52 t) = itr (bstep (s 3) (s 4) (s 5) (offC mask) t) 0 i (0, 0, 0) := by
    intro i
    induction i with
    | zero =>
      intro _
      refine ⟨Fr.fil (by rfl) (Fr.fil (by rfl) (Fr.fil (by rfl) (Fr.rf _ _))), fun t ht => ?_⟩
      show (fil (fil (fil s 50 24 0) 51 24 0) 52 24 0 50 t, fil (fil (fil s 50 24 0) 51 24 0) 52 24 0 51 t, fil (fil (fil s 50 24 0) 51 24 0) 52 24 0 52 t) = (0, 0, 0)
      rw [fil_na (by decide), fil_na (by decide), fil_eq ht, fil_na (by decide), fil_eq ht, fil_eq ht]
    | succ i ih =>
      intro hi
      obtain ⟨f, e⟩ := ih (by omega)
      obtain ⟨hk, m, hm, em⟩ := hev i (by omega)
      rw [itr_0]
      generalize itr (B_takeEvents_a_14 mask) 0 i (fil (fil (fil s 50 24 0) 51 24 0) 52 24 0) = a at f e
      refine ⟨f.tr (fr_B_takeEvents_a_14 mask i a), fun t ht => ?_⟩
      rw [itr_0, ← e t ht]
      have hM : (a 4 i).toNatClampNeg = m := by rw [f 4 i rfl, em]; exact Int32.toNatClampNeg_ofNat_of_lt (by omega)
      have hcm : m_cmp .ne (s 4 i) (Int32.ofNat t) = !(decide (m = t)) := by
        rw [em]
        by_cases q : m = t
        · subst q
          rw [decide_eq_true rfl]
          cases c : m_cmp .ne (Int32.ofNat m) (Int32.ofNat m) with
          | false => rfl
          | true => exact absurd rfl (m_ne_iff.mp c)
        · rw [decide_eq_false q]
          exact m_ne_iff.mpr (fun h => q (ofn_inj hm ht h))
      unfold B_takeEvents_a_14 bstep
      dsimp only
      rw [hM, f 3 i rfl, f 5 i rfl, hcm]
      unfold offC
      cases hb : m_cmp .ne ((mask >>> ((Int32.ofNat i) &&& 31)) &&& 1) 0 with
      | false => cases decide (m = t) <;> rfl
      | true =>
        by_cases q : m = t
        · subst q
          rw [decide_eq_true rfl]
          rcases hk with h | h | h
          · rw [h]
            show (uset a 50 m _ 50 m, a 51 m, a 52 m) = (a 50 m ||| _, a 51 m + 0, a 52 m + 0)
            rw [uset_eq, Int32.add_zero, Int32.add_zero]
            rfl
          · rw [h]
            show (a 50 m, uset a 51 m _ 51 m, a 52 m) = (a 50 m ||| 0, a 51 m + _, a 52 m + 0)
            rw [uset_eq, Int32.add_zero, Int32.or_zero]
            rfl
          · rw [h]
            show (a 50 m, a 51 m, uset a 52 m _ 52 m) = (a 50 m ||| 0, a 51 m + 0, a 52 m + _)
            rw [uset_eq, Int32.add_zero, Int32.or_zero]
            rfl
        · rw [decide_eq_false q]
          have q2 : ¬ t = m := fun w => q w.symm
          rcases hk with h | h | h
          · rw [h]
            show (uset a 50 m _ 50 t, a 51 t, a 52 t) = (a 50 t, a 51 t, a 52 t)
            rw [uset_nj q2]
          · rw [h]
            show (a 50 t, uset a 51 m _ 51 t, a 52 t) = (a 50 t, a 51 t, a 52 t)
            rw [uset_nj q2]
          · rw [h]
            show (a 50 t, a 51 t, uset a 52 m _ 52 t) = (a 50 t, a 51 t, a 52 t)
            rw [uset_nj q2]
  exact (key _ (Nat.le_refl _)).2
theorem trC_a (s : SG) : ∀ k, k < (s 10 0).toNatClampNeg → F_takeRowers_a s 48 k = frs (s 11 k) (s 12 k) ∧ F_takeRowers_a s 49 k = ltr (s 11 k) (s 12 k) ∧ F_takeRowers_a s 46 k = 0 ∧ F_takeRowers_a s 47 k = 0 := by
  have key : ∀ i, i ≤ (s 10 0).toNatClampNeg → Fr W_takeRowers_a s (itr B_takeRowers_a_2 0 i s) ∧ ∀ k, k < i → itr B_takeRowers_a_2 0 i s 48 k = frs (s 11 k) (s 12 k) ∧ itr B_takeRowers_a_2 0 i s 49 k = ltr (s 11 k) (s 12 k) ∧ itr B_takeRowers_a_2 0 i s 46 k = 0 ∧ itr B_takeRowers_a_2 0 i s 47 k = 0 := by
    intro i
    induction i with
    | zero => exact fun _ => ⟨Fr.rf _ _, fun k hk => absurd hk (by omega)⟩
    | succ i ih =>
      intro hi
      obtain ⟨f, e⟩ := ih (by omega)
      rw [itr_0]
      generalize itr B_takeRowers_a_2 0 i s = a at f e
      refine ⟨f.tr (fr_B_takeRowers_a_2 i a), fun k hk => ?_⟩
      have hB : B_takeRowers_a_2 i a = uset (uset (uset (uset a 48 i (frs (a 11 i) (a 12 i))) 49 i (ltr (a 11 i) (a 12 i))) 46 i 0) 47 i 0 := rfl
      rw [hB, f 11 i rfl, f 12 i rfl]
      by_cases q : k = i
      · subst q
        refine ⟨?_, ?_, ?_, ?_⟩
        · rw [uset_na (by decide), uset_na (by decide), uset_na (by decide), uset_eq]
        · rw [uset_na (by decide), uset_na (by decide), uset_eq]
        · rw [uset_na (by decide), uset_eq]
        · rw [uset_eq]
      · obtain ⟨e1, e2, e3, e4⟩ := e k (by omega)
        rw [uset_nj q, uset_nj q, uset_nj q, uset_nj q, uset_nj q, uset_nj q, uset_nj q, uset_nj q, uset_nj q, uset_nj q, uset_nj q, uset_nj q, uset_nj q, uset_nj q, uset_nj q, uset_nj q]
        exact ⟨e1, e2, e3, e4⟩
  exact (key _ (Nat.le_refl _)).2
theorem teC_b (s : SG) (mask : Int32) (hev : evC s) : ∀ t, t < 24 → (F_takeEvents_b s mask 93 t, F_takeEvents_b s mask 94 t, F_takeEvents_b s mask 95 t) = befC s mask t := by
  have key : ∀ i, i ≤ (s 2 3).toNatClampNeg → Fr W_takeEvents_b s (itr (B_takeEvents_b_14 mask) 0 i (fil (fil (fil s 93 24 0) 94 24 0) 95 24 0)) ∧ ∀ t, t < 24 → (itr (B_takeEvents_b_14 mask) 0 i (fil (fil (fil s 93 24 0) 94 24 0) 95 24 0) 93 t, itr (B_takeEvents_b_14 mask) 0 i (fil (fil (fil s 93 24 0) 94 24 0) 95 24 0) 94 t, itr (B_takeEvents_b_14 mask) 0 i (fil (fil (fil s 93 24 0) 94 24 0) 95 24 0) 95 t) = itr (bstep (s 3) (s 4) (s 5) (offC mask) t) 0 i (0, 0, 0) := by
    intro i
    induction i with
    | zero =>
      intro _
      refine ⟨Fr.fil (by rfl) (Fr.fil (by rfl) (Fr.fil (by rfl) (Fr.rf _ _))), fun t ht => ?_⟩
      show (fil (fil (fil s 93 24 0) 94 24 0) 95 24 0 93 t, fil (fil (fil s 93 24 0) 94 24 0) 95 24 0 94 t, fil (fil (fil s 93 24 0) 94 24 0) 95 24 0 95 t) = (0, 0, 0)
      rw [fil_na (by decide), fil_na (by decide), fil_eq ht, fil_na (by decide), fil_eq ht, fil_eq ht]
    | succ i ih =>
      intro hi
      obtain ⟨f, e⟩ := ih (by omega)
      obtain ⟨hk, m, hm, em⟩ := hev i (by omega)
      rw [itr_0]
      generalize itr (B_takeEvents_b_14 mask) 0 i (fil (fil (fil s 93 24 0) 94 24 0) 95 24 0) = a at f e
      refine ⟨f.tr (fr_B_takeEvents_b_14 mask i a), fun t ht => ?_⟩
      rw [itr_0, ← e t ht]
      have hM : (a 4 i).toNatClampNeg = m := by rw [f 4 i rfl, em]; exact Int32.toNatClampNeg_ofNat_of_lt (by omega)
      have hcm : m_cmp .ne (s 4 i) (Int32.ofNat t) = !(decide (m = t)) := by
        rw [em]
        by_cases q : m = t
        · subst q
          rw [decide_eq_true rfl]
          cases c : m_cmp .ne (Int32.ofNat m) (Int32.ofNat m) with
          | false => rfl
          | true => exact absurd rfl (m_ne_iff.mp c)
        · rw [decide_eq_false q]
          exact m_ne_iff.mpr (fun h => q (ofn_inj hm ht h))
      unfold B_takeEvents_b_14 bstep
      dsimp only
      rw [hM, f 3 i rfl, f 5 i rfl, hcm]
      unfold offC
      cases hb : m_cmp .ne ((mask >>> ((Int32.ofNat i) &&& 31)) &&& 1) 0 with
      | false => cases decide (m = t) <;> rfl
      | true =>
        by_cases q : m = t
        · subst q
          rw [decide_eq_true rfl]
          rcases hk with h | h | h
          · rw [h]
            show (uset a 93 m _ 93 m, a 94 m, a 95 m) = (a 93 m ||| _, a 94 m + 0, a 95 m + 0)
            rw [uset_eq, Int32.add_zero, Int32.add_zero]
            rfl
          · rw [h]
            show (a 93 m, uset a 94 m _ 94 m, a 95 m) = (a 93 m ||| 0, a 94 m + _, a 95 m + 0)
            rw [uset_eq, Int32.add_zero, Int32.or_zero]
            rfl
          · rw [h]
            show (a 93 m, a 94 m, uset a 95 m _ 95 m) = (a 93 m ||| 0, a 94 m + 0, a 95 m + _)
            rw [uset_eq, Int32.add_zero, Int32.or_zero]
            rfl
        · rw [decide_eq_false q]
          have q2 : ¬ t = m := fun w => q w.symm
          rcases hk with h | h | h
          · rw [h]
            show (uset a 93 m _ 93 t, a 94 t, a 95 t) = (a 93 t, a 94 t, a 95 t)
            rw [uset_nj q2]
          · rw [h]
            show (a 93 t, uset a 94 m _ 94 t, a 95 t) = (a 93 t, a 94 t, a 95 t)
            rw [uset_nj q2]
          · rw [h]
            show (a 93 t, a 94 t, uset a 95 m _ 95 t) = (a 93 t, a 94 t, a 95 t)
            rw [uset_nj q2]
  exact (key _ (Nat.le_refl _)).2
theorem trC_b (s : SG) : ∀ k, k < (s 53 0).toNatClampNeg → F_takeRowers_b s 91 k = frs (s 54 k) (s 55 k) ∧ F_takeRowers_b s 92 k = ltr (s 54 k) (s 55 k) ∧ F_takeRowers_b s 89 k = 0 ∧ F_takeRowers_b s 90 k = 0 := by
  have key : ∀ i, i ≤ (s 53 0).toNatClampNeg → Fr W_takeRowers_b s (itr B_takeRowers_b_2 0 i s) ∧ ∀ k, k < i → itr B_takeRowers_b_2 0 i s 91 k = frs (s 54 k) (s 55 k) ∧ itr B_takeRowers_b_2 0 i s 92 k = ltr (s 54 k) (s 55 k) ∧ itr B_takeRowers_b_2 0 i s 89 k = 0 ∧ itr B_takeRowers_b_2 0 i s 90 k = 0 := by
    intro i
    induction i with
    | zero => exact fun _ => ⟨Fr.rf _ _, fun k hk => absurd hk (by omega)⟩
    | succ i ih =>
      intro hi
      obtain ⟨f, e⟩ := ih (by omega)
      rw [itr_0]
      generalize itr B_takeRowers_b_2 0 i s = a at f e
      refine ⟨f.tr (fr_B_takeRowers_b_2 i a), fun k hk => ?_⟩
      have hB : B_takeRowers_b_2 i a = uset (uset (uset (uset a 91 i (frs (a 54 i) (a 55 i))) 92 i (ltr (a 54 i) (a 55 i))) 89 i 0) 90 i 0 := rfl
      rw [hB, f 54 i rfl, f 55 i rfl]
      by_cases q : k = i
      · subst q
        refine ⟨?_, ?_, ?_, ?_⟩
        · rw [uset_na (by decide), uset_na (by decide), uset_na (by decide), uset_eq]
        · rw [uset_na (by decide), uset_na (by decide), uset_eq]
        · rw [uset_na (by decide), uset_eq]
        · rw [uset_eq]
      · obtain ⟨e1, e2, e3, e4⟩ := e k (by omega)
        rw [uset_nj q, uset_nj q, uset_nj q, uset_nj q, uset_nj q, uset_nj q, uset_nj q, uset_nj q, uset_nj q, uset_nj q, uset_nj q, uset_nj q, uset_nj q, uset_nj q, uset_nj q, uset_nj q]
        exact ⟨e1, e2, e3, e4⟩
  exact (key _ (Nat.le_refl _)).2
theorem trC_c (s : SG) : ∀ k, k < (s 10 0).toNatClampNeg → F_takeRowers_c s 91 k = frs (s 11 k) (s 12 k) ∧ F_takeRowers_c s 92 k = ltr (s 11 k) (s 12 k) ∧ F_takeRowers_c s 89 k = 0 ∧ F_takeRowers_c s 90 k = 0 := by
  have key : ∀ i, i ≤ (s 10 0).toNatClampNeg → Fr W_takeRowers_c s (itr B_takeRowers_c_2 0 i s) ∧ ∀ k, k < i → itr B_takeRowers_c_2 0 i s 91 k = frs (s 11 k) (s 12 k) ∧ itr B_takeRowers_c_2 0 i s 92 k = ltr (s 11 k) (s 12 k) ∧ itr B_takeRowers_c_2 0 i s 89 k = 0 ∧ itr B_takeRowers_c_2 0 i s 90 k = 0 := by
    intro i
    induction i with
    | zero => exact fun _ => ⟨Fr.rf _ _, fun k hk => absurd hk (by omega)⟩
    | succ i ih =>
      intro hi
      obtain ⟨f, e⟩ := ih (by omega)
      rw [itr_0]
      generalize itr B_takeRowers_c_2 0 i s = a at f e
      refine ⟨f.tr (fr_B_takeRowers_c_2 i a), fun k hk => ?_⟩
      have hB : B_takeRowers_c_2 i a = uset (uset (uset (uset a 91 i (frs (a 11 i) (a 12 i))) 92 i (ltr (a 11 i) (a 12 i))) 89 i 0) 90 i 0 := rfl
      rw [hB, f 11 i rfl, f 12 i rfl]
      by_cases q : k = i
      · subst q
        refine ⟨?_, ?_, ?_, ?_⟩
        · rw [uset_na (by decide), uset_na (by decide), uset_na (by decide), uset_eq]
        · rw [uset_na (by decide), uset_na (by decide), uset_eq]
        · rw [uset_na (by decide), uset_eq]
        · rw [uset_eq]
      · obtain ⟨e1, e2, e3, e4⟩ := e k (by omega)
        rw [uset_nj q, uset_nj q, uset_nj q, uset_nj q, uset_nj q, uset_nj q, uset_nj q, uset_nj q, uset_nj q, uset_nj q, uset_nj q, uset_nj q, uset_nj q, uset_nj q, uset_nj q, uset_nj q]
        exact ⟨e1, e2, e3, e4⟩
  exact (key _ (Nat.le_refl _)).2
end
