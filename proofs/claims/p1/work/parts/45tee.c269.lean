def W_ccopy_22 : List (Nat × Nat × Option Nat) := [(120, 120, none), (0, 0, some 4)]
def F_ccopy_22 (s : SG) (i : Int32) (j : Int32) (n : Int32) : Int32 × SG := bif m_cmp .eq (F_isBelow s 2 4) 0 then (((-2), s)) else (bif m_cmp .ne (F_isBelow s 2 4) 0 then (bif m_cmp .ne (s 119 1) 0 then (let z9 := F_find s 1; z9) else (bif m_cmp .eq (s 119 1) 0 then (bif m_cmp .eq (s 119 2) (s 119 2) then (bif m_cmp .eq (F_hasRange_2 s i n) 0 then (let z17 := F_find s 2; z17) else (bif m_cmp .ne (F_hasRange_2 s j n) 0 then ((1, (mvs s 120 i.toNatClampNeg 120 j.toNatClampNeg n.toNatClampNeg))) else (let z21 := F_find s 2; z21))) else (let z22 := F_find s 4; z22)) else (let z23 := F_find s 1; z23))) else (((-2), s)))
set_option maxRecDepth 20000 in
set_option maxHeartbeats 200000 in
theorem fr_ccopy_22 (s : SG) (i : Int32) (j : Int32) (n : Int32)  : Fr W_ccopy_22 s (F_ccopy_22 s i j n).2 := by dsimp only [F_ccopy_22]; exact (Fr.bifp (b := m_cmp .eq (F_isBelow s 2 4) 0) (x := ((-2), s)) (y := bif m_cmp .ne (F_isBelow s 2 4) 0 then (bif m_cmp .ne (s 119 1) 0 then (let z9 := F_find s 1; z9) else (bif m_cmp .eq (s 119 1) 0 then (bif m_cmp .eq (s 119 2) (s 119 2) then (bif m_cmp .eq (F_hasRange_2 s i n) 0 then (let z17 := F_find s 2; z17) else (bif m_cmp .ne (F_hasRange_2 s j n) 0 then ((1, (mvs s 120 i.toNatClampNeg 120 j.toNatClampNeg n.toNatClampNeg))) else (let z21 := F_find s 2; z21))) else (let z22 := F_find s 4; z22)) else (let z23 := F_find s 1; z23))) else (((-2), s))) (fun x : Int32 × SG => x.2) (by (try dsimp only); exact (Fr.rf _ _)) (by (try dsimp only); exact (Fr.bifp (b := m_cmp .ne (F_isBelow s 2 4) 0) (x := bif m_cmp .ne (s 119 1) 0 then (let z9 := F_find s 1; z9) else (bif m_cmp .eq (s 119 1) 0 then (bif m_cmp .eq (s 119 2) (s 119 2) then (bif m_cmp .eq (F_hasRange_2 s i n) 0 then (let z17 := F_find s 2; z17) else (bif m_cmp .ne (F_hasRange_2 s j n) 0 then ((1, (mvs s 120 i.toNatClampNeg 120 j.toNatClampNeg n.toNatClampNeg))) else (let z21 := F_find s 2; z21))) else (let z22 := F_find s 4; z22)) else (let z23 := F_find s 1; z23))) (y := ((-2), s)) (fun x : Int32 × SG => x.2) (by (try dsimp only); exact (Fr.bifp (b := m_cmp .ne (s 119 1) 0) (x := let z9 := F_find s 1; z9) (y := bif m_cmp .eq (s 119 1) 0 then (bif m_cmp .eq (s 119 2) (s 119 2) then (bif m_cmp .eq (F_hasRange_2 s i n) 0 then (let z17 := F_find s 2; z17) else (bif m_cmp .ne (F_hasRange_2 s j n) 0 then ((1, (mvs s 120 i.toNatClampNeg 120 j.toNatClampNeg n.toNatClampNeg))) else (let z21 := F_find s 2; z21))) else (let z22 := F_find s 4; z22)) else (let z23 := F_find s 1; z23)) (fun x : Int32 × SG => x.2) (by (try dsimp only); exact (Fr.tr (s1 := s) (Fr.rf _ _) (Fr.wk (W2 := W_ccopy_22) (fr_find s 1) (by rfl)))) (by (try dsimp only); exact (Fr.bifp (b := m_cmp .eq (s 119 1) 0) (x := bif m_cmp .eq (s 119 2) (s 119 2) then (bif m_cmp .eq (F_hasRange_2 s i n) 0 then (let z17 := F_find s 2; z17) else (bif m_cmp .ne (F_hasRange_2 s j n) 0 then ((1, (mvs s 120 i.toNatClampNeg 120 j.toNatClampNeg n.toNatClampNeg))) else (let z21 := F_find s 2; z21))) else (let z22 := F_find s 4; z22)) (y := let z23 := F_find s 1; z23) (fun x : Int32 × SG => x.2) (by (try dsimp only); exact (Fr.bifp (b := m_cmp .eq (s 119 2) (s 119 2)) (x := bif m_cmp .eq (F_hasRange_2 s i n) 0 then (let z17 := F_find s 2; z17) else (bif m_cmp .ne (F_hasRange_2 s j n) 0 then ((1, (mvs s 120 i.toNatClampNeg 120 j.toNatClampNeg n.toNatClampNeg))) else (let z21 := F_find s 2; z21))) (y := let z22 := F_find s 4; z22) (fun x : Int32 × SG => x.2) (by (try dsimp only); exact (Fr.bifp (b := m_cmp .eq (F_hasRange_2 s i n) 0) (x := let z17 := F_find s 2; z17) (y := bif m_cmp .ne (F_hasRange_2 s j n) 0 then ((1, (mvs s 120 i.toNatClampNeg 120 j.toNatClampNeg n.toNatClampNeg))) else (let z21 := F_find s 2; z21)) (fun x : Int32 × SG => x.2) (by (try dsimp only); exact (Fr.tr (s1 := s) (Fr.rf _ _) (Fr.wk (W2 := W_ccopy_22) (fr_find s 2) (by rfl)))) (by (try dsimp only); exact (Fr.bifp (b := m_cmp .ne (F_hasRange_2 s j n) 0) (x := (1, (mvs s 120 i.toNatClampNeg 120 j.toNatClampNeg n.toNatClampNeg))) (y := let z21 := F_find s 2; z21) (fun x : Int32 × SG => x.2) (by (try dsimp only); exact (Fr.mvs (by rfl) (Fr.rf _ _))) (by (try dsimp only); exact (Fr.tr (s1 := s) (Fr.rf _ _) (Fr.wk (W2 := W_ccopy_22) (fr_find s 2) (by rfl)))))))) (by (try dsimp only); exact (Fr.tr (s1 := s) (Fr.rf _ _) (Fr.wk (W2 := W_ccopy_22) (fr_find s 4) (by rfl)))))) (by (try dsimp only); exact (Fr.tr (s1 := s) (Fr.rf _ _) (Fr.wk (W2 := W_ccopy_22) (fr_find s 1) (by rfl)))))))) (by (try dsimp only); exact (Fr.rf _ _)))))
set_option maxRecDepth 20000 in
set_option maxHeartbeats 200000 in
theorem ux_ccopy_22 (s : SG) (i : Int32) (j : Int32) (n : Int32)  : UP m_X6_copy 0 (m_ent 8 [.ref 0, .int 2, .int i, .int 2, .int j, .int n]) [] s (Qb (F_ccopy_22 s i j n)) := by
  refine UP.stp 2 (i1 := 2) (L1 := [some (.ref 0), some (.int 2), some (.int i), some (.int 2), some (.int j), some (.int n), none, none]) (st1 := [.int 4, .int 2]) (s1 := s) rfl ?_
  refine UP.cI (M1 := m_X6_isBelow) (as := [.int 2, .int 4]) (rest := []) (T := F_isBelow s 2 4) rfl rfl (ux_isBelow s 2 4) ?_
  refine UP.spl (m_cmp .eq (F_isBelow s 2 4) 0) (((-2), s)) (bif m_cmp .ne (F_isBelow s 2 4) 0 then (bif m_cmp .ne (s 119 1) 0 then (let z9 := F_find s 1; z9) else (bif m_cmp .eq (s 119 1) 0 then (bif m_cmp .eq (s 119 2) (s 119 2) then (bif m_cmp .eq (F_hasRange_2 s i n) 0 then (let z17 := F_find s 2; z17) else (bif m_cmp .ne (F_hasRange_2 s j n) 0 then ((1, (mvs s 120 i.toNatClampNeg 120 j.toNatClampNeg n.toNatClampNeg))) else (let z21 := F_find s 2; z21))) else (let z22 := F_find s 4; z22)) else (let z23 := F_find s 1; z23))) else (((-2), s))) (by first | (dsimp only [F_ccopy_22]; done) | (dsimp only; done) | rfl) (fun cc => ?_) (fun cc => ?_)
  · skip
    refine UP.ifT rfl cc ?_
    refine UP.stp 1 (i1 := 9) (L1 := [some (.ref 0), some (.int 2), some (.int i), some (.int 2), some (.int j), some (.int n), none, none]) (st1 := [.int (-2)]) (s1 := s) rfl ?_
    exact UP.ret (r := some (.int (-2))) rfl ⟨by first | (dsimp only [F_ccopy_22]; done) | (dsimp only; done) | rfl, by first | (dsimp only [F_ccopy_22]; done) | (dsimp only; done) | rfl⟩
  · skip
    refine UP.ifF rfl cc ?_
    refine UP.stp 2 (i1 := 6) (L1 := [some (.ref 0), some (.int 2), some (.int i), some (.int 2), some (.int j), some (.int n), none, none]) (st1 := [.int 4, .int 2]) (s1 := s) rfl ?_
    refine UP.cI (M1 := m_X6_isBelow) (as := [.int 2, .int 4]) (rest := []) (T := F_isBelow s 2 4) rfl rfl (ux_isBelow s 2 4) ?_
    refine UP.spl (m_cmp .ne (F_isBelow s 2 4) 0) (bif m_cmp .ne (s 119 1) 0 then (let z9 := F_find s 1; z9) else (bif m_cmp .eq (s 119 1) 0 then (bif m_cmp .eq (s 119 2) (s 119 2) then (bif m_cmp .eq (F_hasRange_2 s i n) 0 then (let z17 := F_find s 2; z17) else (bif m_cmp .ne (F_hasRange_2 s j n) 0 then ((1, (mvs s 120 i.toNatClampNeg 120 j.toNatClampNeg n.toNatClampNeg))) else (let z21 := F_find s 2; z21))) else (let z22 := F_find s 4; z22)) else (let z23 := F_find s 1; z23))) (((-2), s)) (by first | (dsimp only [F_ccopy_22]; done) | (dsimp only; done) | rfl) (fun cc => ?_) (fun cc => ?_)
    · skip
      refine UP.ifT rfl cc ?_
      refine UP.stp 3 (i1 := 13) (L1 := [some (.ref 0), some (.int 2), some (.int i), some (.int 2), some (.int j), some (.int n), none, none]) (st1 := [.int 2, .ref 9]) (s1 := s) rfl ?_
      refine UP.aald (e := 2) (r := 119) rfl rfl (by omega) rfl ?_
      refine UP.stp 4 (i1 := 18) (L1 := [some (.ref 0), some (.int 2), some (.int i), some (.int 2), some (.int j), some (.int n), some (.ref 119), none]) (st1 := [.int 2, .ref 9]) (s1 := s) rfl ?_
      refine UP.aald (e := 2) (r := 119) rfl rfl (by omega) rfl ?_
      refine UP.stp 3 (i1 := 22) (L1 := [some (.ref 0), some (.int 2), some (.int i), some (.int 2), some (.int j), some (.int n), some (.ref 119), some (.ref 119)]) (st1 := [.int (s 119 1)]) (s1 := s) rfl ?_
      refine UP.spl (m_cmp .ne (s 119 1) 0) (let z9 := F_find s 1; z9) (bif m_cmp .eq (s 119 1) 0 then (bif m_cmp .eq (s 119 2) (s 119 2) then (bif m_cmp .eq (F_hasRange_2 s i n) 0 then (let z17 := F_find s 2; z17) else (bif m_cmp .ne (F_hasRange_2 s j n) 0 then ((1, (mvs s 120 i.toNatClampNeg 120 j.toNatClampNeg n.toNatClampNeg))) else (let z21 := F_find s 2; z21))) else (let z22 := F_find s 4; z22)) else (let z23 := F_find s 1; z23)) (by first | (dsimp only [F_ccopy_22]; done) | (dsimp only; done) | rfl) (fun cc => ?_) (fun cc => ?_)
      · skip
        refine UP.ifT rfl cc ?_
        refine UP.stp 2 (i1 := 28) (L1 := [some (.ref 0), some (.int 2), some (.int i), some (.int 2), some (.int j), some (.int n), some (.ref 119), some (.ref 119)]) (st1 := [.int 1, .ref 0]) (s1 := s) rfl ?_
        refine UP.cB (M1 := m_X6_find) (as := [.ref 0, .int 1]) (rest := []) (T := F_find s 1) rfl rfl (ux_find s 1) (fun z9 e9 => ?_)
        exact UP.ret (r := some (.int z9.1)) rfl ⟨by subst e9; first | (dsimp only [F_ccopy_22]; done) | (dsimp only; done) | rfl, by subst e9; first | (dsimp only [F_ccopy_22]; done) | (dsimp only; done) | rfl⟩
      · skip
        refine UP.ifF rfl cc ?_
        refine UP.stp 2 (i1 := 25) (L1 := [some (.ref 0), some (.int 2), some (.int i), some (.int 2), some (.int j), some (.int n), some (.ref 119), some (.ref 119)]) (st1 := [.int (s 119 1)]) (s1 := s) rfl ?_
        refine UP.spl (m_cmp .eq (s 119 1) 0) (bif m_cmp .eq (s 119 2) (s 119 2) then (bif m_cmp .eq (F_hasRange_2 s i n) 0 then (let z17 := F_find s 2; z17) else (bif m_cmp .ne (F_hasRange_2 s j n) 0 then ((1, (mvs s 120 i.toNatClampNeg 120 j.toNatClampNeg n.toNatClampNeg))) else (let z21 := F_find s 2; z21))) else (let z22 := F_find s 4; z22)) (let z23 := F_find s 1; z23) (by first | (dsimp only [F_ccopy_22]; done) | (dsimp only; done) | rfl) (fun cc => ?_) (fun cc => ?_)
        · skip
          refine UP.ifT rfl cc ?_
          refine UP.stp 4 (i1 := 34) (L1 := [some (.ref 0), some (.int 2), some (.int i), some (.int 2), some (.int j), some (.int n), some (.ref 119), some (.ref 119)]) (st1 := [.int (s 119 2), .int (s 119 2)]) (s1 := s) rfl ?_
          refine UP.spl (m_cmp .eq (s 119 2) (s 119 2)) (bif m_cmp .eq (F_hasRange_2 s i n) 0 then (let z17 := F_find s 2; z17) else (bif m_cmp .ne (F_hasRange_2 s j n) 0 then ((1, (mvs s 120 i.toNatClampNeg 120 j.toNatClampNeg n.toNatClampNeg))) else (let z21 := F_find s 2; z21))) (let z22 := F_find s 4; z22) (by first | (dsimp only [F_ccopy_22]; done) | (dsimp only; done) | rfl) (fun cc => ?_) (fun cc => ?_)
          · skip
            refine UP.icT rfl cc ?_
            refine UP.stp 3 (i1 := 42) (L1 := [some (.ref 0), some (.int 2), some (.int i), some (.int 2), some (.int j), some (.int n), some (.ref 119), some (.ref 119)]) (st1 := [.int n, .int i, .ref 119]) (s1 := s) rfl ?_
            refine UP.cI (M1 := m_X3_hasRange) (as := [.ref 119, .int i, .int n]) (rest := []) (T := F_hasRange_2 s i n) rfl rfl (ux_hasRange_2 s i n) ?_
            refine UP.spl (m_cmp .eq (F_hasRange_2 s i n) 0) (let z17 := F_find s 2; z17) (bif m_cmp .ne (F_hasRange_2 s j n) 0 then ((1, (mvs s 120 i.toNatClampNeg 120 j.toNatClampNeg n.toNatClampNeg))) else (let z21 := F_find s 2; z21)) (by first | (dsimp only [F_ccopy_22]; done) | (dsimp only; done) | rfl) (fun cc => ?_) (fun cc => ?_)
            · skip
              refine UP.ifT rfl cc ?_
              refine UP.stp 2 (i1 := 51) (L1 := [some (.ref 0), some (.int 2), some (.int i), some (.int 2), some (.int j), some (.int n), some (.ref 119), some (.ref 119)]) (st1 := [.int 2, .ref 0]) (s1 := s) rfl ?_
              refine UP.cB (M1 := m_X6_find) (as := [.ref 0, .int 2]) (rest := []) (T := F_find s 2) rfl rfl (ux_find s 2) (fun z17 e17 => ?_)
              exact UP.ret (r := some (.int z17.1)) rfl ⟨by subst e17; first | (dsimp only [F_ccopy_22]; done) | (dsimp only; done) | rfl, by subst e17; first | (dsimp only [F_ccopy_22]; done) | (dsimp only; done) | rfl⟩
            · skip
              refine UP.ifF rfl cc ?_
              refine UP.stp 3 (i1 := 47) (L1 := [some (.ref 0), some (.int 2), some (.int i), some (.int 2), some (.int j), some (.int n), some (.ref 119), some (.ref 119)]) (st1 := [.int n, .int j, .ref 119]) (s1 := s) rfl ?_
              refine UP.cI (M1 := m_X3_hasRange) (as := [.ref 119, .int j, .int n]) (rest := []) (T := F_hasRange_2 s j n) rfl rfl (ux_hasRange_2 s j n) ?_
              refine UP.spl (m_cmp .ne (F_hasRange_2 s j n) 0) ((1, (mvs s 120 i.toNatClampNeg 120 j.toNatClampNeg n.toNatClampNeg))) (let z21 := F_find s 2; z21) (by first | (dsimp only [F_ccopy_22]; done) | (dsimp only; done) | rfl) (fun cc => ?_) (fun cc => ?_)
              · skip
                refine UP.ifT rfl cc ?_
                refine UP.stp 9 (i1 := 62) (L1 := [some (.ref 0), some (.int 2), some (.int i), some (.int 2), some (.int j), some (.int n), some (.ref 119), some (.ref 119)]) (st1 := [.int 1]) (s1 := (mvs s 120 i.toNatClampNeg 120 j.toNatClampNeg n.toNatClampNeg)) rfl ?_
                exact UP.ret (r := some (.int 1)) rfl ⟨by first | (dsimp only [F_ccopy_22]; done) | (dsimp only; done) | rfl, by first | (dsimp only [F_ccopy_22]; done) | (dsimp only; done) | rfl⟩
              · skip
                refine UP.ifF rfl cc ?_
                refine UP.stp 2 (i1 := 51) (L1 := [some (.ref 0), some (.int 2), some (.int i), some (.int 2), some (.int j), some (.int n), some (.ref 119), some (.ref 119)]) (st1 := [.int 2, .ref 0]) (s1 := s) rfl ?_
                refine UP.cB (M1 := m_X6_find) (as := [.ref 0, .int 2]) (rest := []) (T := F_find s 2) rfl rfl (ux_find s 2) (fun z21 e21 => ?_)
                exact UP.ret (r := some (.int z21.1)) rfl ⟨by subst e21; first | (dsimp only [F_ccopy_22]; done) | (dsimp only; done) | rfl, by subst e21; first | (dsimp only [F_ccopy_22]; done) | (dsimp only; done) | rfl⟩
          · skip
            refine UP.icF rfl cc ?_
            refine UP.stp 2 (i1 := 37) (L1 := [some (.ref 0), some (.int 2), some (.int i), some (.int 2), some (.int j), some (.int n), some (.ref 119), some (.ref 119)]) (st1 := [.int 4, .ref 0]) (s1 := s) rfl ?_
            refine UP.cB (M1 := m_X6_find) (as := [.ref 0, .int 4]) (rest := []) (T := F_find s 4) rfl rfl (ux_find s 4) (fun z22 e22 => ?_)
            exact UP.ret (r := some (.int z22.1)) rfl ⟨by subst e22; first | (dsimp only [F_ccopy_22]; done) | (dsimp only; done) | rfl, by subst e22; first | (dsimp only [F_ccopy_22]; done) | (dsimp only; done) | rfl⟩
        · skip
          refine UP.ifF rfl cc ?_
          refine UP.stp 2 (i1 := 28) (L1 := [some (.ref 0), some (.int 2), some (.int i), some (.int 2), some (.int j), some (.int n), some (.ref 119), some (.ref 119)]) (st1 := [.int 1, .ref 0]) (s1 := s) rfl ?_
          refine UP.cB (M1 := m_X6_find) (as := [.ref 0, .int 1]) (rest := []) (T := F_find s 1) rfl rfl (ux_find s 1) (fun z23 e23 => ?_)
          exact UP.ret (r := some (.int z23.1)) rfl ⟨by subst e23; first | (dsimp only [F_ccopy_22]; done) | (dsimp only; done) | rfl, by subst e23; first | (dsimp only [F_ccopy_22]; done) | (dsimp only; done) | rfl⟩
    · skip
      refine UP.ifF rfl cc ?_
      refine UP.stp 1 (i1 := 9) (L1 := [some (.ref 0), some (.int 2), some (.int i), some (.int 2), some (.int j), some (.int n), none, none]) (st1 := [.int (-2)]) (s1 := s) rfl ?_
      exact UP.ret (r := some (.int (-2))) rfl ⟨by first | (dsimp only [F_ccopy_22]; done) | (dsimp only; done) | rfl, by first | (dsimp only [F_ccopy_22]; done) | (dsimp only; done) | rfl⟩
