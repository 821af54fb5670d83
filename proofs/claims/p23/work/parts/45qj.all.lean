section
def W_ccopy_00 : List (Nat × Nat × Option Nat) := [(116, 116, none), (0, 0, some 4)]
def F_ccopy_00 (s : SG) (i : Int32) (j : Int32) (n : Int32) : Int32 × SG := bif m_cmp .eq (F_isBelow s 0 4) 0 then (((-2), s)) else (bif m_cmp .ne (F_isBelow s 0 4) 0 then (bif m_cmp .ne (s 115 1) 0 then (let z9 := F_find s 1; z9) else (bif m_cmp .eq (s 115 1) 0 then (bif m_cmp .eq (s 115 2) (s 115 2) then (bif m_cmp .eq (F_hasRange_0 s i n) 0 then (let z17 := F_find s 2; z17) else (bif m_cmp .ne (F_hasRange_0 s j n) 0 then ((1, (mvs s 116 i.toNatClampNeg 116 j.toNatClampNeg n.toNatClampNeg))) else (let z21 := F_find s 2; z21))) else (let z22 := F_find s 4; z22)) else (let z23 := F_find s 1; z23))) else (((-2), s)))
set_option maxRecDepth 20000 in
set_option maxHeartbeats 200000 in
theorem fr_ccopy_00 (s : SG) (i : Int32) (j : Int32) (n : Int32)  : Fr W_ccopy_00 s (F_ccopy_00 s i j n).2 := by dsimp only [F_ccopy_00]; exact (Fr.bifp (b := m_cmp .eq (F_isBelow s 0 4) 0) (x := ((-2), s)) (y := bif m_cmp .ne (F_isBelow s 0 4) 0 then (bif m_cmp .ne (s 115 1) 0 then (let z9 := F_find s 1; z9) else (bif m_cmp .eq (s 115 1) 0 then (bif m_cmp .eq (s 115 2) (s 115 2) then (bif m_cmp .eq (F_hasRange_0 s i n) 0 then (let z17 := F_find s 2; z17) else (bif m_cmp .ne (F_hasRange_0 s j n) 0 then ((1, (mvs s 116 i.toNatClampNeg 116 j.toNatClampNeg n.toNatClampNeg))) else (let z21 := F_find s 2; z21))) else (let z22 := F_find s 4; z22)) else (let z23 := F_find s 1; z23))) else (((-2), s))) (fun x : Int32 × SG => x.2) (by (try dsimp only); exact (Fr.rf _ _)) (by (try dsimp only); exact (Fr.bifp (b := m_cmp .ne (F_isBelow s 0 4) 0) (x := bif m_cmp .ne (s 115 1) 0 then (let z9 := F_find s 1; z9) else (bif m_cmp .eq (s 115 1) 0 then (bif m_cmp .eq (s 115 2) (s 115 2) then (bif m_cmp .eq (F_hasRange_0 s i n) 0 then (let z17 := F_find s 2; z17) else (bif m_cmp .ne (F_hasRange_0 s j n) 0 then ((1, (mvs s 116 i.toNatClampNeg 116 j.toNatClampNeg n.toNatClampNeg))) else (let z21 := F_find s 2; z21))) else (let z22 := F_find s 4; z22)) else (let z23 := F_find s 1; z23))) (y := ((-2), s)) (fun x : Int32 × SG => x.2) (by (try dsimp only); exact (Fr.bifp (b := m_cmp .ne (s 115 1) 0) (x := let z9 := F_find s 1; z9) (y := bif m_cmp .eq (s 115 1) 0 then (bif m_cmp .eq (s 115 2) (s 115 2) then (bif m_cmp .eq (F_hasRange_0 s i n) 0 then (let z17 := F_find s 2; z17) else (bif m_cmp .ne (F_hasRange_0 s j n) 0 then ((1, (mvs s 116 i.toNatClampNeg 116 j.toNatClampNeg n.toNatClampNeg))) else (let z21 := F_find s 2; z21))) else (let z22 := F_find s 4; z22)) else (let z23 := F_find s 1; z23)) (fun x : Int32 × SG => x.2) (by (try dsimp only); exact (Fr.tr (s1 := s) (Fr.rf _ _) (Fr.wk (W2 := W_ccopy_00) (fr_find s 1) (by rfl)))) (by (try dsimp only); exact (Fr.bifp (b := m_cmp .eq (s 115 1) 0) (x := bif m_cmp .eq (s 115 2) (s 115 2) then (bif m_cmp .eq (F_hasRange_0 s i n) 0 then (let z17 := F_find s 2; z17) else (bif m_cmp .ne (F_hasRange_0 s j n) 0 then ((1, (mvs s 116 i.toNatClampNeg 116 j.toNatClampNeg n.toNatClampNeg))) else (let z21 := F_find s 2; z21))) else (let z22 := F_find s 4; z22)) (y := let z23 := F_find s 1; z23) (fun x : Int32 × SG => x.2) (by (try dsimp only); exact (Fr.bifp (b := m_cmp .eq (s 115 2) (s 115 2)) (x := bif m_cmp .eq (F_hasRange_0 s i n) 0 then (let z17 := F_find s 2; z17) else (bif m_cmp .ne (F_hasRange_0 s j n) 0 then ((1, (mvs s 116 i.toNatClampNeg 116 j.toNatClampNeg n.toNatClampNeg))) else (let z21 := F_find s 2; z21))) (y := let z22 := F_find s 4; z22) (fun x : Int32 × SG => x.2) (by (try dsimp only); exact (Fr.bifp (b := m_cmp .eq (F_hasRange_0 s i n) 0) (x := let z17 := F_find s 2; z17) (y := bif m_cmp .ne (F_hasRange_0 s j n) 0 then ((1, (mvs s 116 i.toNatClampNeg 116 j.toNatClampNeg n.toNatClampNeg))) else (let z21 := F_find s 2; z21)) (fun x : Int32 × SG => x.2) (by (try dsimp only); exact (Fr.tr (s1 := s) (Fr.rf _ _) (Fr.wk (W2 := W_ccopy_00) (fr_find s 2) (by rfl)))) (by (try dsimp only); exact (Fr.bifp (b := m_cmp .ne (F_hasRange_0 s j n) 0) (x := (1, (mvs s 116 i.toNatClampNeg 116 j.toNatClampNeg n.toNatClampNeg))) (y := let z21 := F_find s 2; z21) (fun x : Int32 × SG => x.2) (by (try dsimp only); exact (Fr.mvs (by rfl) (Fr.rf _ _))) (by (try dsimp only); exact (Fr.tr (s1 := s) (Fr.rf _ _) (Fr.wk (W2 := W_ccopy_00) (fr_find s 2) (by rfl)))))))) (by (try dsimp only); exact (Fr.tr (s1 := s) (Fr.rf _ _) (Fr.wk (W2 := W_ccopy_00) (fr_find s 4) (by rfl)))))) (by (try dsimp only); exact (Fr.tr (s1 := s) (Fr.rf _ _) (Fr.wk (W2 := W_ccopy_00) (fr_find s 1) (by rfl)))))))) (by (try dsimp only); exact (Fr.rf _ _)))))
set_option maxRecDepth 20000 in
set_option maxHeartbeats 200000 in
theorem ux_ccopy_00 (s : SG) (i : Int32) (j : Int32) (n : Int32)  : UP m_X6_copy 0 (m_ent 8 [.ref 0, .int 0, .int i, .int 0, .int j, .int n]) [] s (Qb (F_ccopy_00 s i j n)) := by
  refine UP.stp 2 (i1 := 2) (L1 := [some (.ref 0), some (.int 0), some (.int i), some (.int 0), some (.int j), some (.int n), none, none]) (st1 := [.int 4, .int 0]) (s1 := s) rfl ?_
  refine UP.cI (M1 := m_X6_isBelow) (as := [.int 0, .int 4]) (rest := []) (T := F_isBelow s 0 4) rfl rfl (ux_isBelow s 0 4) ?_
  refine UP.spl (m_cmp .eq (F_isBelow s 0 4) 0) (((-2), s)) (bif m_cmp .ne (F_isBelow s 0 4) 0 then (bif m_cmp .ne (s 115 1) 0 then (let z9 := F_find s 1; z9) else (bif m_cmp .eq (s 115 1) 0 then (bif m_cmp .eq (s 115 2) (s 115 2) then (bif m_cmp .eq (F_hasRange_0 s i n) 0 then (let z17 := F_find s 2; z17) else (bif m_cmp .ne (F_hasRange_0 s j n) 0 then ((1, (mvs s 116 i.toNatClampNeg 116 j.toNatClampNeg n.toNatClampNeg))) else (let z21 := F_find s 2; z21))) else (let z22 := F_find s 4; z22)) else (let z23 := F_find s 1; z23))) else (((-2), s))) (by first | (dsimp only [F_ccopy_00]; done) | (dsimp only; done) | rfl) (fun cc => ?_) (fun cc => ?_)
  · skip
    refine UP.ifT rfl cc ?_
    refine UP.stp 1 (i1 := 9) (L1 := [some (.ref 0), some (.int 0), some (.int i), some (.int 0), some (.int j), some (.int n), none, none]) (st1 := [.int (-2)]) (s1 := s) rfl ?_
    exact UP.ret (r := some (.int (-2))) rfl ⟨by first | (dsimp only [F_ccopy_00]; done) | (dsimp only; done) | rfl, by first | (dsimp only [F_ccopy_00]; done) | (dsimp only; done) | rfl⟩
  · skip
    refine UP.ifF rfl cc ?_
    refine UP.stp 2 (i1 := 6) (L1 := [some (.ref 0), some (.int 0), some (.int i), some (.int 0), some (.int j), some (.int n), none, none]) (st1 := [.int 4, .int 0]) (s1 := s) rfl ?_
    refine UP.cI (M1 := m_X6_isBelow) (as := [.int 0, .int 4]) (rest := []) (T := F_isBelow s 0 4) rfl rfl (ux_isBelow s 0 4) ?_
    refine UP.spl (m_cmp .ne (F_isBelow s 0 4) 0) (bif m_cmp .ne (s 115 1) 0 then (let z9 := F_find s 1; z9) else (bif m_cmp .eq (s 115 1) 0 then (bif m_cmp .eq (s 115 2) (s 115 2) then (bif m_cmp .eq (F_hasRange_0 s i n) 0 then (let z17 := F_find s 2; z17) else (bif m_cmp .ne (F_hasRange_0 s j n) 0 then ((1, (mvs s 116 i.toNatClampNeg 116 j.toNatClampNeg n.toNatClampNeg))) else (let z21 := F_find s 2; z21))) else (let z22 := F_find s 4; z22)) else (let z23 := F_find s 1; z23))) (((-2), s)) (by first | (dsimp only [F_ccopy_00]; done) | (dsimp only; done) | rfl) (fun cc => ?_) (fun cc => ?_)
    · skip
      refine UP.ifT rfl cc ?_
      refine UP.stp 3 (i1 := 13) (L1 := [some (.ref 0), some (.int 0), some (.int i), some (.int 0), some (.int j), some (.int n), none, none]) (st1 := [.int 0, .ref 9]) (s1 := s) rfl ?_
      refine UP.aald (e := 0) (r := 115) rfl rfl (by omega) rfl ?_
      refine UP.stp 4 (i1 := 18) (L1 := [some (.ref 0), some (.int 0), some (.int i), some (.int 0), some (.int j), some (.int n), some (.ref 115), none]) (st1 := [.int 0, .ref 9]) (s1 := s) rfl ?_
      refine UP.aald (e := 0) (r := 115) rfl rfl (by omega) rfl ?_
      refine UP.stp 3 (i1 := 22) (L1 := [some (.ref 0), some (.int 0), some (.int i), some (.int 0), some (.int j), some (.int n), some (.ref 115), some (.ref 115)]) (st1 := [.int (s 115 1)]) (s1 := s) rfl ?_
      refine UP.spl (m_cmp .ne (s 115 1) 0) (let z9 := F_find s 1; z9) (bif m_cmp .eq (s 115 1) 0 then (bif m_cmp .eq (s 115 2) (s 115 2) then (bif m_cmp .eq (F_hasRange_0 s i n) 0 then (let z17 := F_find s 2; z17) else (bif m_cmp .ne (F_hasRange_0 s j n) 0 then ((1, (mvs s 116 i.toNatClampNeg 116 j.toNatClampNeg n.toNatClampNeg))) else (let z21 := F_find s 2; z21))) else (let z22 := F_find s 4; z22)) else (let z23 := F_find s 1; z23)) (by first | (dsimp only [F_ccopy_00]; done) | (dsimp only; done) | rfl) (fun cc => ?_) (fun cc => ?_)
      · skip
        refine UP.ifT rfl cc ?_
        refine UP.stp 2 (i1 := 28) (L1 := [some (.ref 0), some (.int 0), some (.int i), some (.int 0), some (.int j), some (.int n), some (.ref 115), some (.ref 115)]) (st1 := [.int 1, .ref 0]) (s1 := s) rfl ?_
        refine UP.cB (M1 := m_X6_find) (as := [.ref 0, .int 1]) (rest := []) (T := F_find s 1) rfl rfl (ux_find s 1) (fun z9 e9 => ?_)
        exact UP.ret (r := some (.int z9.1)) rfl ⟨by subst e9; first | (dsimp only [F_ccopy_00]; done) | (dsimp only; done) | rfl, by subst e9; first | (dsimp only [F_ccopy_00]; done) | (dsimp only; done) | rfl⟩
      · skip
        refine UP.ifF rfl cc ?_
        refine UP.stp 2 (i1 := 25) (L1 := [some (.ref 0), some (.int 0), some (.int i), some (.int 0), some (.int j), some (.int n), some (.ref 115), some (.ref 115)]) (st1 := [.int (s 115 1)]) (s1 := s) rfl ?_
        refine UP.spl (m_cmp .eq (s 115 1) 0) (bif m_cmp .eq (s 115 2) (s 115 2) then (bif m_cmp .eq (F_hasRange_0 s i n) 0 then (let z17 := F_find s 2; z17) else (bif m_cmp .ne (F_hasRange_0 s j n) 0 then ((1, (mvs s 116 i.toNatClampNeg 116 j.toNatClampNeg n.toNatClampNeg))) else (let z21 := F_find s 2; z21))) else (let z22 := F_find s 4; z22)) (let z23 := F_find s 1; z23) (by first | (dsimp only [F_ccopy_00]; done) | (dsimp only; done) | rfl) (fun cc => ?_) (fun cc => ?_)
        · skip
          refine UP.ifT rfl cc ?_
          refine UP.stp 4 (i1 := 34) (L1 := [some (.ref 0), some (.int 0), some (.int i), some (.int 0), some (.int j), some (.int n), some (.ref 115), some (.ref 115)]) (st1 := [.int (s 115 2), .int (s 115 2)]) (s1 := s) rfl ?_
          refine UP.spl (m_cmp .eq (s 115 2) (s 115 2)) (bif m_cmp .eq (F_hasRange_0 s i n) 0 then (let z17 := F_find s 2; z17) else (bif m_cmp .ne (F_hasRange_0 s j n) 0 then ((1, (mvs s 116 i.toNatClampNeg 116 j.toNatClampNeg n.toNatClampNeg))) else (let z21 := F_find s 2; z21))) (let z22 := F_find s 4; z22) (by first | (dsimp only [F_ccopy_00]; done) | (dsimp only; done) | rfl) (fun cc => ?_) (fun cc => ?_)
          · skip
            refine UP.icT rfl cc ?_
            refine UP.stp 3 (i1 := 42) (L1 := [some (.ref 0), some (.int 0), some (.int i), some (.int 0), some (.int j), some (.int n), some (.ref 115), some (.ref 115)]) (st1 := [.int n, .int i, .ref 115]) (s1 := s) rfl ?_
            refine UP.cI (M1 := m_X3_hasRange) (as := [.ref 115, .int i, .int n]) (rest := []) (T := F_hasRange_0 s i n) rfl rfl (ux_hasRange_0 s i n) ?_
            refine UP.spl (m_cmp .eq (F_hasRange_0 s i n) 0) (let z17 := F_find s 2; z17) (bif m_cmp .ne (F_hasRange_0 s j n) 0 then ((1, (mvs s 116 i.toNatClampNeg 116 j.toNatClampNeg n.toNatClampNeg))) else (let z21 := F_find s 2; z21)) (by first | (dsimp only [F_ccopy_00]; done) | (dsimp only; done) | rfl) (fun cc => ?_) (fun cc => ?_)
            · skip
              refine UP.ifT rfl cc ?_
              refine UP.stp 2 (i1 := 51) (L1 := [some (.ref 0), some (.int 0), some (.int i), some (.int 0), some (.int j), some (.int n), some (.ref 115), some (.ref 115)]) (st1 := [.int 2, .ref 0]) (s1 := s) rfl ?_
              refine UP.cB (M1 := m_X6_find) (as := [.ref 0, .int 2]) (rest := []) (T := F_find s 2) rfl rfl (ux_find s 2) (fun z17 e17 => ?_)
              exact UP.ret (r := some (.int z17.1)) rfl ⟨by subst e17; first | (dsimp only [F_ccopy_00]; done) | (dsimp only; done) | rfl, by subst e17; first | (dsimp only [F_ccopy_00]; done) | (dsimp only; done) | rfl⟩
            · skip
              refine UP.ifF rfl cc ?_
              refine UP.stp 3 (i1 := 47) (L1 := [some (.ref 0), some (.int 0), some (.int i), some (.int 0), some (.int j), some (.int n), some (.ref 115), some (.ref 115)]) (st1 := [.int n, .int j, .ref 115]) (s1 := s) rfl ?_
              refine UP.cI (M1 := m_X3_hasRange) (as := [.ref 115, .int j, .int n]) (rest := []) (T := F_hasRange_0 s j n) rfl rfl (ux_hasRange_0 s j n) ?_
              refine UP.spl (m_cmp .ne (F_hasRange_0 s j n) 0) ((1, (mvs s 116 i.toNatClampNeg 116 j.toNatClampNeg n.toNatClampNeg))) (let z21 := F_find s 2; z21) (by first | (dsimp only [F_ccopy_00]; done) | (dsimp only; done) | rfl) (fun cc => ?_) (fun cc => ?_)
              · skip
                refine UP.ifT rfl cc ?_
                refine UP.stp 9 (i1 := 62) (L1 := [some (.ref 0), some (.int 0), some (.int i), some (.int 0), some (.int j), some (.int n), some (.ref 115), some (.ref 115)]) (st1 := [.int 1]) (s1 := (mvs s 116 i.toNatClampNeg 116 j.toNatClampNeg n.toNatClampNeg)) rfl ?_
                exact UP.ret (r := some (.int 1)) rfl ⟨by first | (dsimp only [F_ccopy_00]; done) | (dsimp only; done) | rfl, by first | (dsimp only [F_ccopy_00]; done) | (dsimp only; done) | rfl⟩
              · skip
                refine UP.ifF rfl cc ?_
                refine UP.stp 2 (i1 := 51) (L1 := [some (.ref 0), some (.int 0), some (.int i), some (.int 0), some (.int j), some (.int n), some (.ref 115), some (.ref 115)]) (st1 := [.int 2, .ref 0]) (s1 := s) rfl ?_
                refine UP.cB (M1 := m_X6_find) (as := [.ref 0, .int 2]) (rest := []) (T := F_find s 2) rfl rfl (ux_find s 2) (fun z21 e21 => ?_)
                exact UP.ret (r := some (.int z21.1)) rfl ⟨by subst e21; first | (dsimp only [F_ccopy_00]; done) | (dsimp only; done) | rfl, by subst e21; first | (dsimp only [F_ccopy_00]; done) | (dsimp only; done) | rfl⟩
          · skip
            refine UP.icF rfl cc ?_
            refine UP.stp 2 (i1 := 37) (L1 := [some (.ref 0), some (.int 0), some (.int i), some (.int 0), some (.int j), some (.int n), some (.ref 115), some (.ref 115)]) (st1 := [.int 4, .ref 0]) (s1 := s) rfl ?_
            refine UP.cB (M1 := m_X6_find) (as := [.ref 0, .int 4]) (rest := []) (T := F_find s 4) rfl rfl (ux_find s 4) (fun z22 e22 => ?_)
            exact UP.ret (r := some (.int z22.1)) rfl ⟨by subst e22; first | (dsimp only [F_ccopy_00]; done) | (dsimp only; done) | rfl, by subst e22; first | (dsimp only [F_ccopy_00]; done) | (dsimp only; done) | rfl⟩
        · skip
          refine UP.ifF rfl cc ?_
          refine UP.stp 2 (i1 := 28) (L1 := [some (.ref 0), some (.int 0), some (.int i), some (.int 0), some (.int j), some (.int n), some (.ref 115), some (.ref 115)]) (st1 := [.int 1, .ref 0]) (s1 := s) rfl ?_
          refine UP.cB (M1 := m_X6_find) (as := [.ref 0, .int 1]) (rest := []) (T := F_find s 1) rfl rfl (ux_find s 1) (fun z23 e23 => ?_)
          exact UP.ret (r := some (.int z23.1)) rfl ⟨by subst e23; first | (dsimp only [F_ccopy_00]; done) | (dsimp only; done) | rfl, by subst e23; first | (dsimp only [F_ccopy_00]; done) | (dsimp only; done) | rfl⟩
    · skip
      refine UP.ifF rfl cc ?_
      refine UP.stp 1 (i1 := 9) (L1 := [some (.ref 0), some (.int 0), some (.int i), some (.int 0), some (.int j), some (.int n), none, none]) (st1 := [.int (-2)]) (s1 := s) rfl ?_
      exact UP.ret (r := some (.int (-2))) rfl ⟨by first | (dsimp only [F_ccopy_00]; done) | (dsimp only; done) | rfl, by first | (dsimp only [F_ccopy_00]; done) | (dsimp only; done) | rfl⟩
end
section
def W_ccopy_01 : List (Nat × Nat × Option Nat) := [(118, 118, none), (0, 0, some 4)]
def F_ccopy_01 (s : SG) (i : Int32) (j : Int32) (n : Int32) : Int32 × SG := bif m_cmp .eq (F_isBelow s 0 4) 0 then (((-2), s)) else (bif m_cmp .ne (F_isBelow s 1 4) 0 then (bif m_cmp .ne (s 115 1) 0 then (let z9 := F_find s 1; z9) else (bif m_cmp .eq (s 117 1) 0 then (bif m_cmp .eq (s 115 2) (s 117 2) then (bif m_cmp .eq (F_hasRange_0 s i n) 0 then (let z17 := F_find s 2; z17) else (bif m_cmp .ne (F_hasRange_1 s j n) 0 then ((1, (mvs s 116 i.toNatClampNeg 118 j.toNatClampNeg n.toNatClampNeg))) else (let z21 := F_find s 2; z21))) else (let z22 := F_find s 4; z22)) else (let z23 := F_find s 1; z23))) else (((-2), s)))
set_option maxRecDepth 20000 in
set_option maxHeartbeats 200000 in
theorem fr_ccopy_01 (s : SG) (i : Int32) (j : Int32) (n : Int32)  : Fr W_ccopy_01 s (F_ccopy_01 s i j n).2 := by dsimp only [F_ccopy_01]; exact (Fr.bifp (b := m_cmp .eq (F_isBelow s 0 4) 0) (x := ((-2), s)) (y := bif m_cmp .ne (F_isBelow s 1 4) 0 then (bif m_cmp .ne (s 115 1) 0 then (let z9 := F_find s 1; z9) else (bif m_cmp .eq (s 117 1) 0 then (bif m_cmp .eq (s 115 2) (s 117 2) then (bif m_cmp .eq (F_hasRange_0 s i n) 0 then (let z17 := F_find s 2; z17) else (bif m_cmp .ne (F_hasRange_1 s j n) 0 then ((1, (mvs s 116 i.toNatClampNeg 118 j.toNatClampNeg n.toNatClampNeg))) else (let z21 := F_find s 2; z21))) else (let z22 := F_find s 4; z22)) else (let z23 := F_find s 1; z23))) else (((-2), s))) (fun x : Int32 × SG => x.2) (by (try dsimp only); exact (Fr.rf _ _)) (by (try dsimp only); exact (Fr.bifp (b := m_cmp .ne (F_isBelow s 1 4) 0) (x := bif m_cmp .ne (s 115 1) 0 then (let z9 := F_find s 1; z9) else (bif m_cmp .eq (s 117 1) 0 then (bif m_cmp .eq (s 115 2) (s 117 2) then (bif m_cmp .eq (F_hasRange_0 s i n) 0 then (let z17 := F_find s 2; z17) else (bif m_cmp .ne (F_hasRange_1 s j n) 0 then ((1, (mvs s 116 i.toNatClampNeg 118 j.toNatClampNeg n.toNatClampNeg))) else (let z21 := F_find s 2; z21))) else (let z22 := F_find s 4; z22)) else (let z23 := F_find s 1; z23))) (y := ((-2), s)) (fun x : Int32 × SG => x.2) (by (try dsimp only); exact (Fr.bifp (b := m_cmp .ne (s 115 1) 0) (x := let z9 := F_find s 1; z9) (y := bif m_cmp .eq (s 117 1) 0 then (bif m_cmp .eq (s 115 2) (s 117 2) then (bif m_cmp .eq (F_hasRange_0 s i n) 0 then (let z17 := F_find s 2; z17) else (bif m_cmp .ne (F_hasRange_1 s j n) 0 then ((1, (mvs s 116 i.toNatClampNeg 118 j.toNatClampNeg n.toNatClampNeg))) else (let z21 := F_find s 2; z21))) else (let z22 := F_find s 4; z22)) else (let z23 := F_find s 1; z23)) (fun x : Int32 × SG => x.2) (by (try dsimp only); exact (Fr.tr (s1 := s) (Fr.rf _ _) (Fr.wk (W2 := W_ccopy_01) (fr_find s 1) (by rfl)))) (by (try dsimp only); exact (Fr.bifp (b := m_cmp .eq (s 117 1) 0) (x := bif m_cmp .eq (s 115 2) (s 117 2) then (bif m_cmp .eq (F_hasRange_0 s i n) 0 then (let z17 := F_find s 2; z17) else (bif m_cmp .ne (F_hasRange_1 s j n) 0 then ((1, (mvs s 116 i.toNatClampNeg 118 j.toNatClampNeg n.toNatClampNeg))) else (let z21 := F_find s 2; z21))) else (let z22 := F_find s 4; z22)) (y := let z23 := F_find s 1; z23) (fun x : Int32 × SG => x.2) (by (try dsimp only); exact (Fr.bifp (b := m_cmp .eq (s 115 2) (s 117 2)) (x := bif m_cmp .eq (F_hasRange_0 s i n) 0 then (let z17 := F_find s 2; z17) else (bif m_cmp .ne (F_hasRange_1 s j n) 0 then ((1, (mvs s 116 i.toNatClampNeg 118 j.toNatClampNeg n.toNatClampNeg))) else (let z21 := F_find s 2; z21))) (y := let z22 := F_find s 4; z22) (fun x : Int32 × SG => x.2) (by (try dsimp only); exact (Fr.bifp (b := m_cmp .eq (F_hasRange_0 s i n) 0) (x := let z17 := F_find s 2; z17) (y := bif m_cmp .ne (F_hasRange_1 s j n) 0 then ((1, (mvs s 116 i.toNatClampNeg 118 j.toNatClampNeg n.toNatClampNeg))) else (let z21 := F_find s 2; z21)) (fun x : Int32 × SG => x.2) (by (try dsimp only); exact (Fr.tr (s1 := s) (Fr.rf _ _) (Fr.wk (W2 := W_ccopy_01) (fr_find s 2) (by rfl)))) (by (try dsimp only); exact (Fr.bifp (b := m_cmp .ne (F_hasRange_1 s j n) 0) (x := (1, (mvs s 116 i.toNatClampNeg 118 j.toNatClampNeg n.toNatClampNeg))) (y := let z21 := F_find s 2; z21) (fun x : Int32 × SG => x.2) (by (try dsimp only); exact (Fr.mvs (by rfl) (Fr.rf _ _))) (by (try dsimp only); exact (Fr.tr (s1 := s) (Fr.rf _ _) (Fr.wk (W2 := W_ccopy_01) (fr_find s 2) (by rfl)))))))) (by (try dsimp only); exact (Fr.tr (s1 := s) (Fr.rf _ _) (Fr.wk (W2 := W_ccopy_01) (fr_find s 4) (by rfl)))))) (by (try dsimp only); exact (Fr.tr (s1 := s) (Fr.rf _ _) (Fr.wk (W2 := W_ccopy_01) (fr_find s 1) (by rfl)))))))) (by (try dsimp only); exact (Fr.rf _ _)))))
set_option maxRecDepth 20000 in
set_option maxHeartbeats 200000 in
theorem ux_ccopy_01 (s : SG) (i : Int32) (j : Int32) (n : Int32)  : UP m_X6_copy 0 (m_ent 8 [.ref 0, .int 0, .int i, .int 1, .int j, .int n]) [] s (Qb (F_ccopy_01 s i j n)) := by
  refine UP.stp 2 (i1 := 2) (L1 := [some (.ref 0), some (.int 0), some (.int i), some (.int 1), some (.int j), some (.int n), none, none]) (st1 := [.int 4, .int 0]) (s1 := s) rfl ?_
  refine UP.cI (M1 := m_X6_isBelow) (as := [.int 0, .int 4]) (rest := []) (T := F_isBelow s 0 4) rfl rfl (ux_isBelow s 0 4) ?_
  refine UP.spl (m_cmp .eq (F_isBelow s 0 4) 0) (((-2), s)) (bif m_cmp .ne (F_isBelow s 1 4) 0 then (bif m_cmp .ne (s 115 1) 0 then (let z9 := F_find s 1; z9) else (bif m_cmp .eq (s 117 1) 0 then (bif m_cmp .eq (s 115 2) (s 117 2) then (bif m_cmp .eq (F_hasRange_0 s i n) 0 then (let z17 := F_find s 2; z17) else (bif m_cmp .ne (F_hasRange_1 s j n) 0 then ((1, (mvs s 116 i.toNatClampNeg 118 j.toNatClampNeg n.toNatClampNeg))) else (let z21 := F_find s 2; z21))) else (let z22 := F_find s 4; z22)) else (let z23 := F_find s 1; z23))) else (((-2), s))) (by first | (dsimp only [F_ccopy_01]; done) | (dsimp only; done) | rfl) (fun cc => ?_) (fun cc => ?_)
  · skip
    refine UP.ifT rfl cc ?_
    refine UP.stp 1 (i1 := 9) (L1 := [some (.ref 0), some (.int 0), some (.int i), some (.int 1), some (.int j), some (.int n), none, none]) (st1 := [.int (-2)]) (s1 := s) rfl ?_
    exact UP.ret (r := some (.int (-2))) rfl ⟨by first | (dsimp only [F_ccopy_01]; done) | (dsimp only; done) | rfl, by first | (dsimp only [F_ccopy_01]; done) | (dsimp only; done) | rfl⟩
  · skip
    refine UP.ifF rfl cc ?_
    refine UP.stp 2 (i1 := 6) (L1 := [some (.ref 0), some (.int 0), some (.int i), some (.int 1), some (.int j), some (.int n), none, none]) (st1 := [.int 4, .int 1]) (s1 := s) rfl ?_
    refine UP.cI (M1 := m_X6_isBelow) (as := [.int 1, .int 4]) (rest := []) (T := F_isBelow s 1 4) rfl rfl (ux_isBelow s 1 4) ?_
    refine UP.spl (m_cmp .ne (F_isBelow s 1 4) 0) (bif m_cmp .ne (s 115 1) 0 then (let z9 := F_find s 1; z9) else (bif m_cmp .eq (s 117 1) 0 then (bif m_cmp .eq (s 115 2) (s 117 2) then (bif m_cmp .eq (F_hasRange_0 s i n) 0 then (let z17 := F_find s 2; z17) else (bif m_cmp .ne (F_hasRange_1 s j n) 0 then ((1, (mvs s 116 i.toNatClampNeg 118 j.toNatClampNeg n.toNatClampNeg))) else (let z21 := F_find s 2; z21))) else (let z22 := F_find s 4; z22)) else (let z23 := F_find s 1; z23))) (((-2), s)) (by first | (dsimp only [F_ccopy_01]; done) | (dsimp only; done) | rfl) (fun cc => ?_) (fun cc => ?_)
    · skip
      refine UP.ifT rfl cc ?_
      refine UP.stp 3 (i1 := 13) (L1 := [some (.ref 0), some (.int 0), some (.int i), some (.int 1), some (.int j), some (.int n), none, none]) (st1 := [.int 0, .ref 9]) (s1 := s) rfl ?_
      refine UP.aald (e := 0) (r := 115) rfl rfl (by omega) rfl ?_
      refine UP.stp 4 (i1 := 18) (L1 := [some (.ref 0), some (.int 0), some (.int i), some (.int 1), some (.int j), some (.int n), some (.ref 115), none]) (st1 := [.int 1, .ref 9]) (s1 := s) rfl ?_
      refine UP.aald (e := 1) (r := 117) rfl rfl (by omega) rfl ?_
      refine UP.stp 3 (i1 := 22) (L1 := [some (.ref 0), some (.int 0), some (.int i), some (.int 1), some (.int j), some (.int n), some (.ref 115), some (.ref 117)]) (st1 := [.int (s 115 1)]) (s1 := s) rfl ?_
      refine UP.spl (m_cmp .ne (s 115 1) 0) (let z9 := F_find s 1; z9) (bif m_cmp .eq (s 117 1) 0 then (bif m_cmp .eq (s 115 2) (s 117 2) then (bif m_cmp .eq (F_hasRange_0 s i n) 0 then (let z17 := F_find s 2; z17) else (bif m_cmp .ne (F_hasRange_1 s j n) 0 then ((1, (mvs s 116 i.toNatClampNeg 118 j.toNatClampNeg n.toNatClampNeg))) else (let z21 := F_find s 2; z21))) else (let z22 := F_find s 4; z22)) else (let z23 := F_find s 1; z23)) (by first | (dsimp only [F_ccopy_01]; done) | (dsimp only; done) | rfl) (fun cc => ?_) (fun cc => ?_)
      · skip
        refine UP.ifT rfl cc ?_
        refine UP.stp 2 (i1 := 28) (L1 := [some (.ref 0), some (.int 0), some (.int i), some (.int 1), some (.int j), some (.int n), some (.ref 115), some (.ref 117)]) (st1 := [.int 1, .ref 0]) (s1 := s) rfl ?_
        refine UP.cB (M1 := m_X6_find) (as := [.ref 0, .int 1]) (rest := []) (T := F_find s 1) rfl rfl (ux_find s 1) (fun z9 e9 => ?_)
        exact UP.ret (r := some (.int z9.1)) rfl ⟨by subst e9; first | (dsimp only [F_ccopy_01]; done) | (dsimp only; done) | rfl, by subst e9; first | (dsimp only [F_ccopy_01]; done) | (dsimp only; done) | rfl⟩
      · skip
        refine UP.ifF rfl cc ?_
        refine UP.stp 2 (i1 := 25) (L1 := [some (.ref 0), some (.int 0), some (.int i), some (.int 1), some (.int j), some (.int n), some (.ref 115), some (.ref 117)]) (st1 := [.int (s 117 1)]) (s1 := s) rfl ?_
        refine UP.spl (m_cmp .eq (s 117 1) 0) (bif m_cmp .eq (s 115 2) (s 117 2) then (bif m_cmp .eq (F_hasRange_0 s i n) 0 then (let z17 := F_find s 2; z17) else (bif m_cmp .ne (F_hasRange_1 s j n) 0 then ((1, (mvs s 116 i.toNatClampNeg 118 j.toNatClampNeg n.toNatClampNeg))) else (let z21 := F_find s 2; z21))) else (let z22 := F_find s 4; z22)) (let z23 := F_find s 1; z23) (by first | (dsimp only [F_ccopy_01]; done) | (dsimp only; done) | rfl) (fun cc => ?_) (fun cc => ?_)
        · skip
          refine UP.ifT rfl cc ?_
          refine UP.stp 4 (i1 := 34) (L1 := [some (.ref 0), some (.int 0), some (.int i), some (.int 1), some (.int j), some (.int n), some (.ref 115), some (.ref 117)]) (st1 := [.int (s 117 2), .int (s 115 2)]) (s1 := s) rfl ?_
          refine UP.spl (m_cmp .eq (s 115 2) (s 117 2)) (bif m_cmp .eq (F_hasRange_0 s i n) 0 then (let z17 := F_find s 2; z17) else (bif m_cmp .ne (F_hasRange_1 s j n) 0 then ((1, (mvs s 116 i.toNatClampNeg 118 j.toNatClampNeg n.toNatClampNeg))) else (let z21 := F_find s 2; z21))) (let z22 := F_find s 4; z22) (by first | (dsimp only [F_ccopy_01]; done) | (dsimp only; done) | rfl) (fun cc => ?_) (fun cc => ?_)
          · skip
            refine UP.icT rfl cc ?_
            refine UP.stp 3 (i1 := 42) (L1 := [some (.ref 0), some (.int 0), some (.int i), some (.int 1), some (.int j), some (.int n), some (.ref 115), some (.ref 117)]) (st1 := [.int n, .int i, .ref 115]) (s1 := s) rfl ?_
            refine UP.cI (M1 := m_X3_hasRange) (as := [.ref 115, .int i, .int n]) (rest := []) (T := F_hasRange_0 s i n) rfl rfl (ux_hasRange_0 s i n) ?_
            refine UP.spl (m_cmp .eq (F_hasRange_0 s i n) 0) (let z17 := F_find s 2; z17) (bif m_cmp .ne (F_hasRange_1 s j n) 0 then ((1, (mvs s 116 i.toNatClampNeg 118 j.toNatClampNeg n.toNatClampNeg))) else (let z21 := F_find s 2; z21)) (by first | (dsimp only [F_ccopy_01]; done) | (dsimp only; done) | rfl) (fun cc => ?_) (fun cc => ?_)
            · skip
              refine UP.ifT rfl cc ?_
              refine UP.stp 2 (i1 := 51) (L1 := [some (.ref 0), some (.int 0), some (.int i), some (.int 1), some (.int j), some (.int n), some (.ref 115), some (.ref 117)]) (st1 := [.int 2, .ref 0]) (s1 := s) rfl ?_
              refine UP.cB (M1 := m_X6_find) (as := [.ref 0, .int 2]) (rest := []) (T := F_find s 2) rfl rfl (ux_find s 2) (fun z17 e17 => ?_)
              exact UP.ret (r := some (.int z17.1)) rfl ⟨by subst e17; first | (dsimp only [F_ccopy_01]; done) | (dsimp only; done) | rfl, by subst e17; first | (dsimp only [F_ccopy_01]; done) | (dsimp only; done) | rfl⟩
            · skip
              refine UP.ifF rfl cc ?_
              refine UP.stp 3 (i1 := 47) (L1 := [some (.ref 0), some (.int 0), some (.int i), some (.int 1), some (.int j), some (.int n), some (.ref 115), some (.ref 117)]) (st1 := [.int n, .int j, .ref 117]) (s1 := s) rfl ?_
              refine UP.cI (M1 := m_X3_hasRange) (as := [.ref 117, .int j, .int n]) (rest := []) (T := F_hasRange_1 s j n) rfl rfl (ux_hasRange_1 s j n) ?_
              refine UP.spl (m_cmp .ne (F_hasRange_1 s j n) 0) ((1, (mvs s 116 i.toNatClampNeg 118 j.toNatClampNeg n.toNatClampNeg))) (let z21 := F_find s 2; z21) (by first | (dsimp only [F_ccopy_01]; done) | (dsimp only; done) | rfl) (fun cc => ?_) (fun cc => ?_)
              · skip
                refine UP.ifT rfl cc ?_
                refine UP.stp 9 (i1 := 62) (L1 := [some (.ref 0), some (.int 0), some (.int i), some (.int 1), some (.int j), some (.int n), some (.ref 115), some (.ref 117)]) (st1 := [.int 1]) (s1 := (mvs s 116 i.toNatClampNeg 118 j.toNatClampNeg n.toNatClampNeg)) rfl ?_
                exact UP.ret (r := some (.int 1)) rfl ⟨by first | (dsimp only [F_ccopy_01]; done) | (dsimp only; done) | rfl, by first | (dsimp only [F_ccopy_01]; done) | (dsimp only; done) | rfl⟩
              · skip
                refine UP.ifF rfl cc ?_
                refine UP.stp 2 (i1 := 51) (L1 := [some (.ref 0), some (.int 0), some (.int i), some (.int 1), some (.int j), some (.int n), some (.ref 115), some (.ref 117)]) (st1 := [.int 2, .ref 0]) (s1 := s) rfl ?_
                refine UP.cB (M1 := m_X6_find) (as := [.ref 0, .int 2]) (rest := []) (T := F_find s 2) rfl rfl (ux_find s 2) (fun z21 e21 => ?_)
                exact UP.ret (r := some (.int z21.1)) rfl ⟨by subst e21; first | (dsimp only [F_ccopy_01]; done) | (dsimp only; done) | rfl, by subst e21; first | (dsimp only [F_ccopy_01]; done) | (dsimp only; done) | rfl⟩
          · skip
            refine UP.icF rfl cc ?_
            refine UP.stp 2 (i1 := 37) (L1 := [some (.ref 0), some (.int 0), some (.int i), some (.int 1), some (.int j), some (.int n), some (.ref 115), some (.ref 117)]) (st1 := [.int 4, .ref 0]) (s1 := s) rfl ?_
            refine UP.cB (M1 := m_X6_find) (as := [.ref 0, .int 4]) (rest := []) (T := F_find s 4) rfl rfl (ux_find s 4) (fun z22 e22 => ?_)
            exact UP.ret (r := some (.int z22.1)) rfl ⟨by subst e22; first | (dsimp only [F_ccopy_01]; done) | (dsimp only; done) | rfl, by subst e22; first | (dsimp only [F_ccopy_01]; done) | (dsimp only; done) | rfl⟩
        · skip
          refine UP.ifF rfl cc ?_
          refine UP.stp 2 (i1 := 28) (L1 := [some (.ref 0), some (.int 0), some (.int i), some (.int 1), some (.int j), some (.int n), some (.ref 115), some (.ref 117)]) (st1 := [.int 1, .ref 0]) (s1 := s) rfl ?_
          refine UP.cB (M1 := m_X6_find) (as := [.ref 0, .int 1]) (rest := []) (T := F_find s 1) rfl rfl (ux_find s 1) (fun z23 e23 => ?_)
          exact UP.ret (r := some (.int z23.1)) rfl ⟨by subst e23; first | (dsimp only [F_ccopy_01]; done) | (dsimp only; done) | rfl, by subst e23; first | (dsimp only [F_ccopy_01]; done) | (dsimp only; done) | rfl⟩
    · skip
      refine UP.ifF rfl cc ?_
      refine UP.stp 1 (i1 := 9) (L1 := [some (.ref 0), some (.int 0), some (.int i), some (.int 1), some (.int j), some (.int n), none, none]) (st1 := [.int (-2)]) (s1 := s) rfl ?_
      exact UP.ret (r := some (.int (-2))) rfl ⟨by first | (dsimp only [F_ccopy_01]; done) | (dsimp only; done) | rfl, by first | (dsimp only [F_ccopy_01]; done) | (dsimp only; done) | rfl⟩
end
section
def W_ccopy_02 : List (Nat × Nat × Option Nat) := [(120, 120, none), (0, 0, some 4)]
def F_ccopy_02 (s : SG) (i : Int32) (j : Int32) (n : Int32) : Int32 × SG := bif m_cmp .eq (F_isBelow s 0 4) 0 then (((-2), s)) else (bif m_cmp .ne (F_isBelow s 2 4) 0 then (bif m_cmp .ne (s 115 1) 0 then (let z9 := F_find s 1; z9) else (bif m_cmp .eq (s 119 1) 0 then (bif m_cmp .eq (s 115 2) (s 119 2) then (bif m_cmp .eq (F_hasRange_0 s i n) 0 then (let z17 := F_find s 2; z17) else (bif m_cmp .ne (F_hasRange_2 s j n) 0 then ((1, (mvs s 116 i.toNatClampNeg 120 j.toNatClampNeg n.toNatClampNeg))) else (let z21 := F_find s 2; z21))) else (let z22 := F_find s 4; z22)) else (let z23 := F_find s 1; z23))) else (((-2), s)))
set_option maxRecDepth 20000 in
set_option maxHeartbeats 200000 in
theorem fr_ccopy_02 (s : SG) (i : Int32) (j : Int32) (n : Int32)  : Fr W_ccopy_02 s (F_ccopy_02 s i j n).2 := by dsimp only [F_ccopy_02]; exact (Fr.bifp (b := m_cmp .eq (F_isBelow s 0 4) 0) (x := ((-2), s)) (y := bif m_cmp .ne (F_isBelow s 2 4) 0 then (bif m_cmp .ne (s 115 1) 0 then (let z9 := F_find s 1; z9) else (bif m_cmp .eq (s 119 1) 0 then (bif m_cmp .eq (s 115 2) (s 119 2) then (bif m_cmp .eq (F_hasRange_0 s i n) 0 then (let z17 := F_find s 2; z17) else (bif m_cmp .ne (F_hasRange_2 s j n) 0 then ((1, (mvs s 116 i.toNatClampNeg 120 j.toNatClampNeg n.toNatClampNeg))) else (let z21 := F_find s 2; z21))) else (let z22 := F_find s 4; z22)) else (let z23 := F_find s 1; z23))) else (((-2), s))) (fun x : Int32 × SG => x.2) (by (try dsimp only); exact (Fr.rf _ _)) (by (try dsimp only); exact (Fr.bifp (b := m_cmp .ne (F_isBelow s 2 4) 0) (x := bif m_cmp .ne (s 115 1) 0 then (let z9 := F_find s 1; z9) else (bif m_cmp .eq (s 119 1) 0 then (bif m_cmp .eq (s 115 2) (s 119 2) then (bif m_cmp .eq (F_hasRange_0 s i n) 0 then (let z17 := F_find s 2; z17) else (bif m_cmp .ne (F_hasRange_2 s j n) 0 then ((1, (mvs s 116 i.toNatClampNeg 120 j.toNatClampNeg n.toNatClampNeg))) else (let z21 := F_find s 2; z21))) else (let z22 := F_find s 4; z22)) else (let z23 := F_find s 1; z23))) (y := ((-2), s)) (fun x : Int32 × SG => x.2) (by (try dsimp only); exact (Fr.bifp (b := m_cmp .ne (s 115 1) 0) (x := let z9 := F_find s 1; z9) (y := bif m_cmp .eq (s 119 1) 0 then (bif m_cmp .eq (s 115 2) (s 119 2) then (bif m_cmp .eq (F_hasRange_0 s i n) 0 then (let z17 := F_find s 2; z17) else (bif m_cmp .ne (F_hasRange_2 s j n) 0 then ((1, (mvs s 116 i.toNatClampNeg 120 j.toNatClampNeg n.toNatClampNeg))) else (let z21 := F_find s 2; z21))) else (let z22 := F_find s 4; z22)) else (let z23 := F_find s 1; z23)) (fun x : Int32 × SG => x.2) (by (try dsimp only); exact (Fr.tr (s1 := s) (Fr.rf _ _) (Fr.wk (W2 := W_ccopy_02) (fr_find s 1) (by rfl)))) (by (try dsimp only); exact (Fr.bifp (b := m_cmp .eq (s 119 1) 0) (x := bif m_cmp .eq (s 115 2) (s 119 2) then (bif m_cmp .eq (F_hasRange_0 s i n) 0 then (let z17 := F_find s 2; z17) else (bif m_cmp .ne (F_hasRange_2 s j n) 0 then ((1, (mvs s 116 i.toNatClampNeg 120 j.toNatClampNeg n.toNatClampNeg))) else (let z21 := F_find s 2; z21))) else (let z22 := F_find s 4; z22)) (y := let z23 := F_find s 1; z23) (fun x : Int32 × SG => x.2) (by (try dsimp only); exact (Fr.bifp (b := m_cmp .eq (s 115 2) (s 119 2)) (x := bif m_cmp .eq (F_hasRange_0 s i n) 0 then (let z17 := F_find s 2; z17) else (bif m_cmp .ne (F_hasRange_2 s j n) 0 then ((1, (mvs s 116 i.toNatClampNeg 120 j.toNatClampNeg n.toNatClampNeg))) else (let z21 := F_find s 2; z21))) (y := let z22 := F_find s 4; z22) (fun x : Int32 × SG => x.2) (by (try dsimp only); exact (Fr.bifp (b := m_cmp .eq (F_hasRange_0 s i n) 0) (x := let z17 := F_find s 2; z17) (y := bif m_cmp .ne (F_hasRange_2 s j n) 0 then ((1, (mvs s 116 i.toNatClampNeg 120 j.toNatClampNeg n.toNatClampNeg))) else (let z21 := F_find s 2; z21)) (fun x : Int32 × SG => x.2) (by (try dsimp only); exact (Fr.tr (s1 := s) (Fr.rf _ _) (Fr.wk (W2 := W_ccopy_02) (fr_find s 2) (by rfl)))) (by (try dsimp only); exact (Fr.bifp (b := m_cmp .ne (F_hasRange_2 s j n) 0) (x := (1, (mvs s 116 i.toNatClampNeg 120 j.toNatClampNeg n.toNatClampNeg))) (y := let z21 := F_find s 2; z21) (fun x : Int32 × SG => x.2) (by (try dsimp only); exact (Fr.mvs (by rfl) (Fr.rf _ _))) (by (try dsimp only); exact (Fr.tr (s1 := s) (Fr.rf _ _) (Fr.wk (W2 := W_ccopy_02) (fr_find s 2) (by rfl)))))))) (by (try dsimp only); exact (Fr.tr (s1 := s) (Fr.rf _ _) (Fr.wk (W2 := W_ccopy_02) (fr_find s 4) (by rfl)))))) (by (try dsimp only); exact (Fr.tr (s1 := s) (Fr.rf _ _) (Fr.wk (W2 := W_ccopy_02) (fr_find s 1) (by rfl)))))))) (by (try dsimp only); exact (Fr.rf _ _)))))
set_option maxRecDepth 20000 in
set_option maxHeartbeats 200000 in
theorem ux_ccopy_02 (s : SG) (i : Int32) (j : Int32) (n : Int32)  : UP m_X6_copy 0 (m_ent 8 [.ref 0, .int 0, .int i, .int 2, .int j, .int n]) [] s (Qb (F_ccopy_02 s i j n)) := by
  refine UP.stp 2 (i1 := 2) (L1 := [some (.ref 0), some (.int 0), some (.int i), some (.int 2), some (.int j), some (.int n), none, none]) (st1 := [.int 4, .int 0]) (s1 := s) rfl ?_
  refine UP.cI (M1 := m_X6_isBelow) (as := [.int 0, .int 4]) (rest := []) (T := F_isBelow s 0 4) rfl rfl (ux_isBelow s 0 4) ?_
  refine UP.spl (m_cmp .eq (F_isBelow s 0 4) 0) (((-2), s)) (bif m_cmp .ne (F_isBelow s 2 4) 0 then (bif m_cmp .ne (s 115 1) 0 then (let z9 := F_find s 1; z9) else (bif m_cmp .eq (s 119 1) 0 then (bif m_cmp .eq (s 115 2) (s 119 2) then (bif m_cmp .eq (F_hasRange_0 s i n) 0 then (let z17 := F_find s 2; z17) else (bif m_cmp .ne (F_hasRange_2 s j n) 0 then ((1, (mvs s 116 i.toNatClampNeg 120 j.toNatClampNeg n.toNatClampNeg))) else (let z21 := F_find s 2; z21))) else (let z22 := F_find s 4; z22)) else (let z23 := F_find s 1; z23))) else (((-2), s))) (by first | (dsimp only [F_ccopy_02]; done) | (dsimp only; done) | rfl) (fun cc => ?_) (fun cc => ?_)
  · skip
    refine UP.ifT rfl cc ?_
    refine UP.stp 1 (i1 := 9) (L1 := [some (.ref 0), some (.int 0), some (.int i), some (.int 2), some (.int j), some (.int n), none, none]) (st1 := [.int (-2)]) (s1 := s) rfl ?_
    exact UP.ret (r := some (.int (-2))) rfl ⟨by first | (dsimp only [F_ccopy_02]; done) | (dsimp only; done) | rfl, by first | (dsimp only [F_ccopy_02]; done) | (dsimp only; done) | rfl⟩
  · skip
    refine UP.ifF rfl cc ?_
    refine UP.stp 2 (i1 := 6) (L1 := [some (.ref 0), some (.int 0), some (.int i), some (.int 2), some (.int j), some (.int n), none, none]) (st1 := [.int 4, .int 2]) (s1 := s) rfl ?_
    refine UP.cI (M1 := m_X6_isBelow) (as := [.int 2, .int 4]) (rest := []) (T := F_isBelow s 2 4) rfl rfl (ux_isBelow s 2 4) ?_
    refine UP.spl (m_cmp .ne (F_isBelow s 2 4) 0) (bif m_cmp .ne (s 115 1) 0 then (let z9 := F_find s 1; z9) else (bif m_cmp .eq (s 119 1) 0 then (bif m_cmp .eq (s 115 2) (s 119 2) then (bif m_cmp .eq (F_hasRange_0 s i n) 0 then (let z17 := F_find s 2; z17) else (bif m_cmp .ne (F_hasRange_2 s j n) 0 then ((1, (mvs s 116 i.toNatClampNeg 120 j.toNatClampNeg n.toNatClampNeg))) else (let z21 := F_find s 2; z21))) else (let z22 := F_find s 4; z22)) else (let z23 := F_find s 1; z23))) (((-2), s)) (by first | (dsimp only [F_ccopy_02]; done) | (dsimp only; done) | rfl) (fun cc => ?_) (fun cc => ?_)
    · skip
      refine UP.ifT rfl cc ?_
      refine UP.stp 3 (i1 := 13) (L1 := [some (.ref 0), some (.int 0), some (.int i), some (.int 2), some (.int j), some (.int n), none, none]) (st1 := [.int 0, .ref 9]) (s1 := s) rfl ?_
      refine UP.aald (e := 0) (r := 115) rfl rfl (by omega) rfl ?_
      refine UP.stp 4 (i1 := 18) (L1 := [some (.ref 0), some (.int 0), some (.int i), some (.int 2), some (.int j), some (.int n), some (.ref 115), none]) (st1 := [.int 2, .ref 9]) (s1 := s) rfl ?_
      refine UP.aald (e := 2) (r := 119) rfl rfl (by omega) rfl ?_
      refine UP.stp 3 (i1 := 22) (L1 := [some (.ref 0), some (.int 0), some (.int i), some (.int 2), some (.int j), some (.int n), some (.ref 115), some (.ref 119)]) (st1 := [.int (s 115 1)]) (s1 := s) rfl ?_
      refine UP.spl (m_cmp .ne (s 115 1) 0) (let z9 := F_find s 1; z9) (bif m_cmp .eq (s 119 1) 0 then (bif m_cmp .eq (s 115 2) (s 119 2) then (bif m_cmp .eq (F_hasRange_0 s i n) 0 then (let z17 := F_find s 2; z17) else (bif m_cmp .ne (F_hasRange_2 s j n) 0 then ((1, (mvs s 116 i.toNatClampNeg 120 j.toNatClampNeg n.toNatClampNeg))) else (let z21 := F_find s 2; z21))) else (let z22 := F_find s 4; z22)) else (let z23 := F_find s 1; z23)) (by first | (dsimp only [F_ccopy_02]; done) | (dsimp only; done) | rfl) (fun cc => ?_) (fun cc => ?_)
      · skip
        refine UP.ifT rfl cc ?_
        refine UP.stp 2 (i1 := 28) (L1 := [some (.ref 0), some (.int 0), some (.int i), some (.int 2), some (.int j), some (.int n), some (.ref 115), some (.ref 119)]) (st1 := [.int 1, .ref 0]) (s1 := s) rfl ?_
        refine UP.cB (M1 := m_X6_find) (as := [.ref 0, .int 1]) (rest := []) (T := F_find s 1) rfl rfl (ux_find s 1) (fun z9 e9 => ?_)
        exact UP.ret (r := some (.int z9.1)) rfl ⟨by subst e9; first | (dsimp only [F_ccopy_02]; done) | (dsimp only; done) | rfl, by subst e9; first | (dsimp only [F_ccopy_02]; done) | (dsimp only; done) | rfl⟩
      · skip
        refine UP.ifF rfl cc ?_
        refine UP.stp 2 (i1 := 25) (L1 := [some (.ref 0), some (.int 0), some (.int i), some (.int 2), some (.int j), some (.int n), some (.ref 115), some (.ref 119)]) (st1 := [.int (s 119 1)]) (s1 := s) rfl ?_
        refine UP.spl (m_cmp .eq (s 119 1) 0) (bif m_cmp .eq (s 115 2) (s 119 2) then (bif m_cmp .eq (F_hasRange_0 s i n) 0 then (let z17 := F_find s 2; z17) else (bif m_cmp .ne (F_hasRange_2 s j n) 0 then ((1, (mvs s 116 i.toNatClampNeg 120 j.toNatClampNeg n.toNatClampNeg))) else (let z21 := F_find s 2; z21))) else (let z22 := F_find s 4; z22)) (let z23 := F_find s 1; z23) (by first | (dsimp only [F_ccopy_02]; done) | (dsimp only; done) | rfl) (fun cc => ?_) (fun cc => ?_)
        · skip
          refine UP.ifT rfl cc ?_
          refine UP.stp 4 (i1 := 34) (L1 := [some (.ref 0), some (.int 0), some (.int i), some (.int 2), some (.int j), some (.int n), some (.ref 115), some (.ref 119)]) (st1 := [.int (s 119 2), .int (s 115 2)]) (s1 := s) rfl ?_
          refine UP.spl (m_cmp .eq (s 115 2) (s 119 2)) (bif m_cmp .eq (F_hasRange_0 s i n) 0 then (let z17 := F_find s 2; z17) else (bif m_cmp .ne (F_hasRange_2 s j n) 0 then ((1, (mvs s 116 i.toNatClampNeg 120 j.toNatClampNeg n.toNatClampNeg))) else (let z21 := F_find s 2; z21))) (let z22 := F_find s 4; z22) (by first | (dsimp only [F_ccopy_02]; done) | (dsimp only; done) | rfl) (fun cc => ?_) (fun cc => ?_)
          · skip
            refine UP.icT rfl cc ?_
            refine UP.stp 3 (i1 := 42) (L1 := [some (.ref 0), some (.int 0), some (.int i), some (.int 2), some (.int j), some (.int n), some (.ref 115), some (.ref 119)]) (st1 := [.int n, .int i, .ref 115]) (s1 := s) rfl ?_
            refine UP.cI (M1 := m_X3_hasRange) (as := [.ref 115, .int i, .int n]) (rest := []) (T := F_hasRange_0 s i n) rfl rfl (ux_hasRange_0 s i n) ?_
            refine UP.spl (m_cmp .eq (F_hasRange_0 s i n) 0) (let z17 := F_find s 2; z17) (bif m_cmp .ne (F_hasRange_2 s j n) 0 then ((1, (mvs s 116 i.toNatClampNeg 120 j.toNatClampNeg n.toNatClampNeg))) else (let z21 := F_find s 2; z21)) (by first | (dsimp only [F_ccopy_02]; done) | (dsimp only; done) | rfl) (fun cc => ?_) (fun cc => ?_)
            · skip
              refine UP.ifT rfl cc ?_
              refine UP.stp 2 (i1 := 51) (L1 := [some (.ref 0), some (.int 0), some (.int i), some (.int 2), some (.int j), some (.int n), some (.ref 115), some (.ref 119)]) (st1 := [.int 2, .ref 0]) (s1 := s) rfl ?_
              refine UP.cB (M1 := m_X6_find) (as := [.ref 0, .int 2]) (rest := []) (T := F_find s 2) rfl rfl (ux_find s 2) (fun z17 e17 => ?_)
              exact UP.ret (r := some (.int z17.1)) rfl ⟨by subst e17; first | (dsimp only [F_ccopy_02]; done) | (dsimp only; done) | rfl, by subst e17; first | (dsimp only [F_ccopy_02]; done) | (dsimp only; done) | rfl⟩
            · skip
              refine UP.ifF rfl cc ?_
              refine UP.stp 3 (i1 := 47) (L1 := [some (.ref 0), some (.int 0), some (.int i), some (.int 2), some (.int j), some (.int n), some (.ref 115), some (.ref 119)]) (st1 := [.int n, .int j, .ref 119]) (s1 := s) rfl ?_
              refine UP.cI (M1 := m_X3_hasRange) (as := [.ref 119, .int j, .int n]) (rest := []) (T := F_hasRange_2 s j n) rfl rfl (ux_hasRange_2 s j n) ?_
              refine UP.spl (m_cmp .ne (F_hasRange_2 s j n) 0) ((1, (mvs s 116 i.toNatClampNeg 120 j.toNatClampNeg n.toNatClampNeg))) (let z21 := F_find s 2; z21) (by first | (dsimp only [F_ccopy_02]; done) | (dsimp only; done) | rfl) (fun cc => ?_) (fun cc => ?_)
              · skip
                refine UP.ifT rfl cc ?_
                refine UP.stp 9 (i1 := 62) (L1 := [some (.ref 0), some (.int 0), some (.int i), some (.int 2), some (.int j), some (.int n), some (.ref 115), some (.ref 119)]) (st1 := [.int 1]) (s1 := (mvs s 116 i.toNatClampNeg 120 j.toNatClampNeg n.toNatClampNeg)) rfl ?_
                exact UP.ret (r := some (.int 1)) rfl ⟨by first | (dsimp only [F_ccopy_02]; done) | (dsimp only; done) | rfl, by first | (dsimp only [F_ccopy_02]; done) | (dsimp only; done) | rfl⟩
              · skip
                refine UP.ifF rfl cc ?_
                refine UP.stp 2 (i1 := 51) (L1 := [some (.ref 0), some (.int 0), some (.int i), some (.int 2), some (.int j), some (.int n), some (.ref 115), some (.ref 119)]) (st1 := [.int 2, .ref 0]) (s1 := s) rfl ?_
                refine UP.cB (M1 := m_X6_find) (as := [.ref 0, .int 2]) (rest := []) (T := F_find s 2) rfl rfl (ux_find s 2) (fun z21 e21 => ?_)
                exact UP.ret (r := some (.int z21.1)) rfl ⟨by subst e21; first | (dsimp only [F_ccopy_02]; done) | (dsimp only; done) | rfl, by subst e21; first | (dsimp only [F_ccopy_02]; done) | (dsimp only; done) | rfl⟩
          · skip
            refine UP.icF rfl cc ?_
            refine UP.stp 2 (i1 := 37) (L1 := [some (.ref 0), some (.int 0), some (.int i), some (.int 2), some (.int j), some (.int n), some (.ref 115), some (.ref 119)]) (st1 := [.int 4, .ref 0]) (s1 := s) rfl ?_
            refine UP.cB (M1 := m_X6_find) (as := [.ref 0, .int 4]) (rest := []) (T := F_find s 4) rfl rfl (ux_find s 4) (fun z22 e22 => ?_)
            exact UP.ret (r := some (.int z22.1)) rfl ⟨by subst e22; first | (dsimp only [F_ccopy_02]; done) | (dsimp only; done) | rfl, by subst e22; first | (dsimp only [F_ccopy_02]; done) | (dsimp only; done) | rfl⟩
        · skip
          refine UP.ifF rfl cc ?_
          refine UP.stp 2 (i1 := 28) (L1 := [some (.ref 0), some (.int 0), some (.int i), some (.int 2), some (.int j), some (.int n), some (.ref 115), some (.ref 119)]) (st1 := [.int 1, .ref 0]) (s1 := s) rfl ?_
          refine UP.cB (M1 := m_X6_find) (as := [.ref 0, .int 1]) (rest := []) (T := F_find s 1) rfl rfl (ux_find s 1) (fun z23 e23 => ?_)
          exact UP.ret (r := some (.int z23.1)) rfl ⟨by subst e23; first | (dsimp only [F_ccopy_02]; done) | (dsimp only; done) | rfl, by subst e23; first | (dsimp only [F_ccopy_02]; done) | (dsimp only; done) | rfl⟩
    · skip
      refine UP.ifF rfl cc ?_
      refine UP.stp 1 (i1 := 9) (L1 := [some (.ref 0), some (.int 0), some (.int i), some (.int 2), some (.int j), some (.int n), none, none]) (st1 := [.int (-2)]) (s1 := s) rfl ?_
      exact UP.ret (r := some (.int (-2))) rfl ⟨by first | (dsimp only [F_ccopy_02]; done) | (dsimp only; done) | rfl, by first | (dsimp only [F_ccopy_02]; done) | (dsimp only; done) | rfl⟩
end
section
def W_ccopy_03 : List (Nat × Nat × Option Nat) := [(122, 122, none), (0, 0, some 4)]
def F_ccopy_03 (s : SG) (i : Int32) (j : Int32) (n : Int32) : Int32 × SG := bif m_cmp .eq (F_isBelow s 0 4) 0 then (((-2), s)) else (bif m_cmp .ne (F_isBelow s 3 4) 0 then (bif m_cmp .ne (s 115 1) 0 then (let z9 := F_find s 1; z9) else (bif m_cmp .eq (s 121 1) 0 then (bif m_cmp .eq (s 115 2) (s 121 2) then (bif m_cmp .eq (F_hasRange_0 s i n) 0 then (let z17 := F_find s 2; z17) else (bif m_cmp .ne (F_hasRange_3 s j n) 0 then ((1, (mvs s 116 i.toNatClampNeg 122 j.toNatClampNeg n.toNatClampNeg))) else (let z21 := F_find s 2; z21))) else (let z22 := F_find s 4; z22)) else (let z23 := F_find s 1; z23))) else (((-2), s)))
set_option maxRecDepth 20000 in
set_option maxHeartbeats 200000 in
theorem fr_ccopy_03 (s : SG) (i : Int32) (j : Int32) (n : Int32)  : Fr W_ccopy_03 s (F_ccopy_03 s i j n).2 := by dsimp only [F_ccopy_03]; exact (Fr.bifp (b := m_cmp .eq (F_isBelow s 0 4) 0) (x := ((-2), s)) (y := bif m_cmp .ne (F_isBelow s 3 4) 0 then (bif m_cmp .ne (s 115 1) 0 then (let z9 := F_find s 1; z9) else (bif m_cmp .eq (s 121 1) 0 then (bif m_cmp .eq (s 115 2) (s 121 2) then (bif m_cmp .eq (F_hasRange_0 s i n) 0 then (let z17 := F_find s 2; z17) else (bif m_cmp .ne (F_hasRange_3 s j n) 0 then ((1, (mvs s 116 i.toNatClampNeg 122 j.toNatClampNeg n.toNatClampNeg))) else (let z21 := F_find s 2; z21))) else (let z22 := F_find s 4; z22)) else (let z23 := F_find s 1; z23))) else (((-2), s))) (fun x : Int32 × SG => x.2) (by (try dsimp only); exact (Fr.rf _ _)) (by (try dsimp only); exact (Fr.bifp (b := m_cmp .ne (F_isBelow s 3 4) 0) (x := bif m_cmp .ne (s 115 1) 0 then (let z9 := F_find s 1; z9) else (bif m_cmp .eq (s 121 1) 0 then (bif m_cmp .eq (s 115 2) (s 121 2) then (bif m_cmp .eq (F_hasRange_0 s i n) 0 then (let z17 := F_find s 2; z17) else (bif m_cmp .ne (F_hasRange_3 s j n) 0 then ((1, (mvs s 116 i.toNatClampNeg 122 j.toNatClampNeg n.toNatClampNeg))) else (let z21 := F_find s 2; z21))) else (let z22 := F_find s 4; z22)) else (let z23 := F_find s 1; z23))) (y := ((-2), s)) (fun x : Int32 × SG => x.2) (by (try dsimp only); exact (Fr.bifp (b := m_cmp .ne (s 115 1) 0) (x := let z9 := F_find s 1; z9) (y := bif m_cmp .eq (s 121 1) 0 then (bif m_cmp .eq (s 115 2) (s 121 2) then (bif m_cmp .eq (F_hasRange_0 s i n) 0 then (let z17 := F_find s 2; z17) else (bif m_cmp .ne (F_hasRange_3 s j n) 0 then ((1, (mvs s 116 i.toNatClampNeg 122 j.toNatClampNeg n.toNatClampNeg))) else (let z21 := F_find s 2; z21))) else (let z22 := F_find s 4; z22)) else (let z23 := F_find s 1; z23)) (fun x : Int32 × SG => x.2) (by (try dsimp only); exact (Fr.tr (s1 := s) (Fr.rf _ _) (Fr.wk (W2 := W_ccopy_03) (fr_find s 1) (by rfl)))) (by (try dsimp only); exact (Fr.bifp (b := m_cmp .eq (s 121 1) 0) (x := bif m_cmp .eq (s 115 2) (s 121 2) then (bif m_cmp .eq (F_hasRange_0 s i n) 0 then (let z17 := F_find s 2; z17) else (bif m_cmp .ne (F_hasRange_3 s j n) 0 then ((1, (mvs s 116 i.toNatClampNeg 122 j.toNatClampNeg n.toNatClampNeg))) else (let z21 := F_find s 2; z21))) else (let z22 := F_find s 4; z22)) (y := let z23 := F_find s 1; z23) (fun x : Int32 × SG => x.2) (by (try dsimp only); exact (Fr.bifp (b := m_cmp .eq (s 115 2) (s 121 2)) (x := bif m_cmp .eq (F_hasRange_0 s i n) 0 then (let z17 := F_find s 2; z17) else (bif m_cmp .ne (F_hasRange_3 s j n) 0 then ((1, (mvs s 116 i.toNatClampNeg 122 j.toNatClampNeg n.toNatClampNeg))) else (let z21 := F_find s 2; z21))) (y := let z22 := F_find s 4; z22) (fun x : Int32 × SG => x.2) (by (try dsimp only); exact (Fr.bifp (b := m_cmp .eq (F_hasRange_0 s i n) 0) (x := let z17 := F_find s 2; z17) (y := bif m_cmp .ne (F_hasRange_3 s j n) 0 then ((1, (mvs s 116 i.toNatClampNeg 122 j.toNatClampNeg n.toNatClampNeg))) else (let z21 := F_find s 2; z21)) (fun x : Int32 × SG => x.2) (by (try dsimp only); exact (Fr.tr (s1 := s) (Fr.rf _ _) (Fr.wk (W2 := W_ccopy_03) (fr_find s 2) (by rfl)))) (by (try dsimp only); exact (Fr.bifp (b := m_cmp .ne (F_hasRange_3 s j n) 0) (x := (1, (mvs s 116 i.toNatClampNeg 122 j.toNatClampNeg n.toNatClampNeg))) (y := let z21 := F_find s 2; z21) (fun x : Int32 × SG => x.2) (by (try dsimp only); exact (Fr.mvs (by rfl) (Fr.rf _ _))) (by (try dsimp only); exact (Fr.tr (s1 := s) (Fr.rf _ _) (Fr.wk (W2 := W_ccopy_03) (fr_find s 2) (by rfl)))))))) (by (try dsimp only); exact (Fr.tr (s1 := s) (Fr.rf _ _) (Fr.wk (W2 := W_ccopy_03) (fr_find s 4) (by rfl)))))) (by (try dsimp only); exact (Fr.tr (s1 := s) (Fr.rf _ _) (Fr.wk (W2 := W_ccopy_03) (fr_find s 1) (by rfl)))))))) (by (try dsimp only); exact (Fr.rf _ _)))))
set_option maxRecDepth 20000 in
set_option maxHeartbeats 200000 in
theorem ux_ccopy_03 (s : SG) (i : Int32) (j : Int32) (n : Int32)  : UP m_X6_copy 0 (m_ent 8 [.ref 0, .int 0, .int i, .int 3, .int j, .int n]) [] s (Qb (F_ccopy_03 s i j n)) := by
  refine UP.stp 2 (i1 := 2) (L1 := [some (.ref 0), some (.int 0), some (.int i), some (.int 3), some (.int j), some (.int n), none, none]) (st1 := [.int 4, .int 0]) (s1 := s) rfl ?_
  refine UP.cI (M1 := m_X6_isBelow) (as := [.int 0, .int 4]) (rest := []) (T := F_isBelow s 0 4) rfl rfl (ux_isBelow s 0 4) ?_
  refine UP.spl (m_cmp .eq (F_isBelow s 0 4) 0) (((-2), s)) (bif m_cmp .ne (F_isBelow s 3 4) 0 then (bif m_cmp .ne (s 115 1) 0 then (let z9 := F_find s 1; z9) else (bif m_cmp .eq (s 121 1) 0 then (bif m_cmp .eq (s 115 2) (s 121 2) then (bif m_cmp .eq (F_hasRange_0 s i n) 0 then (let z17 := F_find s 2; z17) else (bif m_cmp .ne (F_hasRange_3 s j n) 0 then ((1, (mvs s 116 i.toNatClampNeg 122 j.toNatClampNeg n.toNatClampNeg))) else (let z21 := F_find s 2; z21))) else (let z22 := F_find s 4; z22)) else (let z23 := F_find s 1; z23))) else (((-2), s))) (by first | (dsimp only [F_ccopy_03]; done) | (dsimp only; done) | rfl) (fun cc => ?_) (fun cc => ?_)
  · skip
    refine UP.ifT rfl cc ?_
    refine UP.stp 1 (i1 := 9) (L1 := [some (.ref 0), some (.int 0), some (.int i), some (.int 3), some (.int j), some (.int n), none, none]) (st1 := [.int (-2)]) (s1 := s) rfl ?_
    exact UP.ret (r := some (.int (-2))) rfl ⟨by first | (dsimp only [F_ccopy_03]; done) | (dsimp only; done) | rfl, by first | (dsimp only [F_ccopy_03]; done) | (dsimp only; done) | rfl⟩
  · skip
    refine UP.ifF rfl cc ?_
    refine UP.stp 2 (i1 := 6) (L1 := [some (.ref 0), some (.int 0), some (.int i), some (.int 3), some (.int j), some (.int n), none, none]) (st1 := [.int 4, .int 3]) (s1 := s) rfl ?_
    refine UP.cI (M1 := m_X6_isBelow) (as := [.int 3, .int 4]) (rest := []) (T := F_isBelow s 3 4) rfl rfl (ux_isBelow s 3 4) ?_
    refine UP.spl (m_cmp .ne (F_isBelow s 3 4) 0) (bif m_cmp .ne (s 115 1) 0 then (let z9 := F_find s 1; z9) else (bif m_cmp .eq (s 121 1) 0 then (bif m_cmp .eq (s 115 2) (s 121 2) then (bif m_cmp .eq (F_hasRange_0 s i n) 0 then (let z17 := F_find s 2; z17) else (bif m_cmp .ne (F_hasRange_3 s j n) 0 then ((1, (mvs s 116 i.toNatClampNeg 122 j.toNatClampNeg n.toNatClampNeg))) else (let z21 := F_find s 2; z21))) else (let z22 := F_find s 4; z22)) else (let z23 := F_find s 1; z23))) (((-2), s)) (by first | (dsimp only [F_ccopy_03]; done) | (dsimp only; done) | rfl) (fun cc => ?_) (fun cc => ?_)
    · skip
      refine UP.ifT rfl cc ?_
      refine UP.stp 3 (i1 := 13) (L1 := [some (.ref 0), some (.int 0), some (.int i), some (.int 3), some (.int j), some (.int n), none, none]) (st1 := [.int 0, .ref 9]) (s1 := s) rfl ?_
      refine UP.aald (e := 0) (r := 115) rfl rfl (by omega) rfl ?_
      refine UP.stp 4 (i1 := 18) (L1 := [some (.ref 0), some (.int 0), some (.int i), some (.int 3), some (.int j), some (.int n), some (.ref 115), none]) (st1 := [.int 3, .ref 9]) (s1 := s) rfl ?_
      refine UP.aald (e := 3) (r := 121) rfl rfl (by omega) rfl ?_
      refine UP.stp 3 (i1 := 22) (L1 := [some (.ref 0), some (.int 0), some (.int i), some (.int 3), some (.int j), some (.int n), some (.ref 115), some (.ref 121)]) (st1 := [.int (s 115 1)]) (s1 := s) rfl ?_
      refine UP.spl (m_cmp .ne (s 115 1) 0) (let z9 := F_find s 1; z9) (bif m_cmp .eq (s 121 1) 0 then (bif m_cmp .eq (s 115 2) (s 121 2) then (bif m_cmp .eq (F_hasRange_0 s i n) 0 then (let z17 := F_find s 2; z17) else (bif m_cmp .ne (F_hasRange_3 s j n) 0 then ((1, (mvs s 116 i.toNatClampNeg 122 j.toNatClampNeg n.toNatClampNeg))) else (let z21 := F_find s 2; z21))) else (let z22 := F_find s 4; z22)) else (let z23 := F_find s 1; z23)) (by first | (dsimp only [F_ccopy_03]; done) | (dsimp only; done) | rfl) (fun cc => ?_) (fun cc => ?_)
      · skip
        refine UP.ifT rfl cc ?_
        refine UP.stp 2 (i1 := 28) (L1 := [some (.ref 0), some (.int 0), some (.int i), some (.int 3), some (.int j), some (.int n), some (.ref 115), some (.ref 121)]) (st1 := [.int 1, .ref 0]) (s1 := s) rfl ?_
        refine UP.cB (M1 := m_X6_find) (as := [.ref 0, .int 1]) (rest := []) (T := F_find s 1) rfl rfl (ux_find s 1) (fun z9 e9 => ?_)
        exact UP.ret (r := some (.int z9.1)) rfl ⟨by subst e9; first | (dsimp only [F_ccopy_03]; done) | (dsimp only; done) | rfl, by subst e9; first | (dsimp only [F_ccopy_03]; done) | (dsimp only; done) | rfl⟩
      · skip
        refine UP.ifF rfl cc ?_
        refine UP.stp 2 (i1 := 25) (L1 := [some (.ref 0), some (.int 0), some (.int i), some (.int 3), some (.int j), some (.int n), some (.ref 115), some (.ref 121)]) (st1 := [.int (s 121 1)]) (s1 := s) rfl ?_
        refine UP.spl (m_cmp .eq (s 121 1) 0) (bif m_cmp .eq (s 115 2) (s 121 2) then (bif m_cmp .eq (F_hasRange_0 s i n) 0 then (let z17 := F_find s 2; z17) else (bif m_cmp .ne (F_hasRange_3 s j n) 0 then ((1, (mvs s 116 i.toNatClampNeg 122 j.toNatClampNeg n.toNatClampNeg))) else (let z21 := F_find s 2; z21))) else (let z22 := F_find s 4; z22)) (let z23 := F_find s 1; z23) (by first | (dsimp only [F_ccopy_03]; done) | (dsimp only; done) | rfl) (fun cc => ?_) (fun cc => ?_)
        · skip
          refine UP.ifT rfl cc ?_
          refine UP.stp 4 (i1 := 34) (L1 := [some (.ref 0), some (.int 0), some (.int i), some (.int 3), some (.int j), some (.int n), some (.ref 115), some (.ref 121)]) (st1 := [.int (s 121 2), .int (s 115 2)]) (s1 := s) rfl ?_
          refine UP.spl (m_cmp .eq (s 115 2) (s 121 2)) (bif m_cmp .eq (F_hasRange_0 s i n) 0 then (let z17 := F_find s 2; z17) else (bif m_cmp .ne (F_hasRange_3 s j n) 0 then ((1, (mvs s 116 i.toNatClampNeg 122 j.toNatClampNeg n.toNatClampNeg))) else (let z21 := F_find s 2; z21))) (let z22 := F_find s 4; z22) (by first | (dsimp only [F_ccopy_03]; done) | (dsimp only; done) | rfl) (fun cc => ?_) (fun cc => ?_)
          · skip
            refine UP.icT rfl cc ?_
            refine UP.stp 3 (i1 := 42) (L1 := [some (.ref 0), some (.int 0), some (.int i), some (.int 3), some (.int j), some (.int n), some (.ref 115), some (.ref 121)]) (st1 := [.int n, .int i, .ref 115]) (s1 := s) rfl ?_
            refine UP.cI (M1 := m_X3_hasRange) (as := [.ref 115, .int i, .int n]) (rest := []) (T := F_hasRange_0 s i n) rfl rfl (ux_hasRange_0 s i n) ?_
            refine UP.spl (m_cmp .eq (F_hasRange_0 s i n) 0) (let z17 := F_find s 2; z17) (bif m_cmp .ne (F_hasRange_3 s j n) 0 then ((1, (mvs s 116 i.toNatClampNeg 122 j.toNatClampNeg n.toNatClampNeg))) else (let z21 := F_find s 2; z21)) (by first | (dsimp only [F_ccopy_03]; done) | (dsimp only; done) | rfl) (fun cc => ?_) (fun cc => ?_)
            · skip
              refine UP.ifT rfl cc ?_
              refine UP.stp 2 (i1 := 51) (L1 := [some (.ref 0), some (.int 0), some (.int i), some (.int 3), some (.int j), some (.int n), some (.ref 115), some (.ref 121)]) (st1 := [.int 2, .ref 0]) (s1 := s) rfl ?_
              refine UP.cB (M1 := m_X6_find) (as := [.ref 0, .int 2]) (rest := []) (T := F_find s 2) rfl rfl (ux_find s 2) (fun z17 e17 => ?_)
              exact UP.ret (r := some (.int z17.1)) rfl ⟨by subst e17; first | (dsimp only [F_ccopy_03]; done) | (dsimp only; done) | rfl, by subst e17; first | (dsimp only [F_ccopy_03]; done) | (dsimp only; done) | rfl⟩
            · skip
              refine UP.ifF rfl cc ?_
              refine UP.stp 3 (i1 := 47) (L1 := [some (.ref 0), some (.int 0), some (.int i), some (.int 3), some (.int j), some (.int n), some (.ref 115), some (.ref 121)]) (st1 := [.int n, .int j, .ref 121]) (s1 := s) rfl ?_
              refine UP.cI (M1 := m_X3_hasRange) (as := [.ref 121, .int j, .int n]) (rest := []) (T := F_hasRange_3 s j n) rfl rfl (ux_hasRange_3 s j n) ?_
              refine UP.spl (m_cmp .ne (F_hasRange_3 s j n) 0) ((1, (mvs s 116 i.toNatClampNeg 122 j.toNatClampNeg n.toNatClampNeg))) (let z21 := F_find s 2; z21) (by first | (dsimp only [F_ccopy_03]; done) | (dsimp only; done) | rfl) (fun cc => ?_) (fun cc => ?_)
              · skip
                refine UP.ifT rfl cc ?_
                refine UP.stp 9 (i1 := 62) (L1 := [some (.ref 0), some (.int 0), some (.int i), some (.int 3), some (.int j), some (.int n), some (.ref 115), some (.ref 121)]) (st1 := [.int 1]) (s1 := (mvs s 116 i.toNatClampNeg 122 j.toNatClampNeg n.toNatClampNeg)) rfl ?_
                exact UP.ret (r := some (.int 1)) rfl ⟨by first | (dsimp only [F_ccopy_03]; done) | (dsimp only; done) | rfl, by first | (dsimp only [F_ccopy_03]; done) | (dsimp only; done) | rfl⟩
              · skip
                refine UP.ifF rfl cc ?_
                refine UP.stp 2 (i1 := 51) (L1 := [some (.ref 0), some (.int 0), some (.int i), some (.int 3), some (.int j), some (.int n), some (.ref 115), some (.ref 121)]) (st1 := [.int 2, .ref 0]) (s1 := s) rfl ?_
                refine UP.cB (M1 := m_X6_find) (as := [.ref 0, .int 2]) (rest := []) (T := F_find s 2) rfl rfl (ux_find s 2) (fun z21 e21 => ?_)
                exact UP.ret (r := some (.int z21.1)) rfl ⟨by subst e21; first | (dsimp only [F_ccopy_03]; done) | (dsimp only; done) | rfl, by subst e21; first | (dsimp only [F_ccopy_03]; done) | (dsimp only; done) | rfl⟩
          · skip
            refine UP.icF rfl cc ?_
            refine UP.stp 2 (i1 := 37) (L1 := [some (.ref 0), some (.int 0), some (.int i), some (.int 3), some (.int j), some (.int n), some (.ref 115), some (.ref 121)]) (st1 := [.int 4, .ref 0]) (s1 := s) rfl ?_
            refine UP.cB (M1 := m_X6_find) (as := [.ref 0, .int 4]) (rest := []) (T := F_find s 4) rfl rfl (ux_find s 4) (fun z22 e22 => ?_)
            exact UP.ret (r := some (.int z22.1)) rfl ⟨by subst e22; first | (dsimp only [F_ccopy_03]; done) | (dsimp only; done) | rfl, by subst e22; first | (dsimp only [F_ccopy_03]; done) | (dsimp only; done) | rfl⟩
        · skip
          refine UP.ifF rfl cc ?_
          refine UP.stp 2 (i1 := 28) (L1 := [some (.ref 0), some (.int 0), some (.int i), some (.int 3), some (.int j), some (.int n), some (.ref 115), some (.ref 121)]) (st1 := [.int 1, .ref 0]) (s1 := s) rfl ?_
          refine UP.cB (M1 := m_X6_find) (as := [.ref 0, .int 1]) (rest := []) (T := F_find s 1) rfl rfl (ux_find s 1) (fun z23 e23 => ?_)
          exact UP.ret (r := some (.int z23.1)) rfl ⟨by subst e23; first | (dsimp only [F_ccopy_03]; done) | (dsimp only; done) | rfl, by subst e23; first | (dsimp only [F_ccopy_03]; done) | (dsimp only; done) | rfl⟩
    · skip
      refine UP.ifF rfl cc ?_
      refine UP.stp 1 (i1 := 9) (L1 := [some (.ref 0), some (.int 0), some (.int i), some (.int 3), some (.int j), some (.int n), none, none]) (st1 := [.int (-2)]) (s1 := s) rfl ?_
      exact UP.ret (r := some (.int (-2))) rfl ⟨by first | (dsimp only [F_ccopy_03]; done) | (dsimp only; done) | rfl, by first | (dsimp only [F_ccopy_03]; done) | (dsimp only; done) | rfl⟩
end
section
def W_ccopy_10 : List (Nat × Nat × Option Nat) := [(116, 116, none), (0, 0, some 4)]
def F_ccopy_10 (s : SG) (i : Int32) (j : Int32) (n : Int32) : Int32 × SG := bif m_cmp .eq (F_isBelow s 1 4) 0 then (((-2), s)) else (bif m_cmp .ne (F_isBelow s 0 4) 0 then (bif m_cmp .ne (s 117 1) 0 then (let z9 := F_find s 1; z9) else (bif m_cmp .eq (s 115 1) 0 then (bif m_cmp .eq (s 117 2) (s 115 2) then (bif m_cmp .eq (F_hasRange_1 s i n) 0 then (let z17 := F_find s 2; z17) else (bif m_cmp .ne (F_hasRange_0 s j n) 0 then ((1, (mvs s 118 i.toNatClampNeg 116 j.toNatClampNeg n.toNatClampNeg))) else (let z21 := F_find s 2; z21))) else (let z22 := F_find s 4; z22)) else (let z23 := F_find s 1; z23))) else (((-2), s)))
set_option maxRecDepth 20000 in
set_option maxHeartbeats 200000 in
theorem fr_ccopy_10 (s : SG) (i : Int32) (j : Int32) (n : Int32)  : Fr W_ccopy_10 s (F_ccopy_10 s i j n).2 := by dsimp only [F_ccopy_10]; exact (Fr.bifp (b := m_cmp .eq (F_isBelow s 1 4) 0) (x := ((-2), s)) (y := bif m_cmp .ne (F_isBelow s 0 4) 0 then (bif m_cmp .ne (s 117 1) 0 then (let z9 := F_find s 1; z9) else (bif m_cmp .eq (s 115 1) 0 then (bif m_cmp .eq (s 117 2) (s 115 2) then (bif m_cmp .eq (F_hasRange_1 s i n) 0 then (let z17 := F_find s 2; z17) else (bif m_cmp .ne (F_hasRange_0 s j n) 0 then ((1, (mvs s 118 i.toNatClampNeg 116 j.toNatClampNeg n.toNatClampNeg))) else (let z21 := F_find s 2; z21))) else (let z22 := F_find s 4; z22)) else (let z23 := F_find s 1; z23))) else (((-2), s))) (fun x : Int32 × SG => x.2) (by (try dsimp only); exact (Fr.rf _ _)) (by (try dsimp only); exact (Fr.bifp (b := m_cmp .ne (F_isBelow s 0 4) 0) (x := bif m_cmp .ne (s 117 1) 0 then (let z9 := F_find s 1; z9) else (bif m_cmp .eq (s 115 1) 0 then (bif m_cmp .eq (s 117 2) (s 115 2) then (bif m_cmp .eq (F_hasRange_1 s i n) 0 then (let z17 := F_find s 2; z17) else (bif m_cmp .ne (F_hasRange_0 s j n) 0 then ((1, (mvs s 118 i.toNatClampNeg 116 j.toNatClampNeg n.toNatClampNeg))) else (let z21 := F_find s 2; z21))) else (let z22 := F_find s 4; z22)) else (let z23 := F_find s 1; z23))) (y := ((-2), s)) (fun x : Int32 × SG => x.2) (by (try dsimp only); exact (Fr.bifp (b := m_cmp .ne (s 117 1) 0) (x := let z9 := F_find s 1; z9) (y := bif m_cmp .eq (s 115 1) 0 then (bif m_cmp .eq (s 117 2) (s 115 2) then (bif m_cmp .eq (F_hasRange_1 s i n) 0 then (let z17 := F_find s 2; z17) else (bif m_cmp .ne (F_hasRange_0 s j n) 0 then ((1, (mvs s 118 i.toNatClampNeg 116 j.toNatClampNeg n.toNatClampNeg))) else (let z21 := F_find s 2; z21))) else (let z22 := F_find s 4; z22)) else (let z23 := F_find s 1; z23)) (fun x : Int32 × SG => x.2) (by (try dsimp only); exact (Fr.tr (s1 := s) (Fr.rf _ _) (Fr.wk (W2 := W_ccopy_10) (fr_find s 1) (by rfl)))) (by (try dsimp only); exact (Fr.bifp (b := m_cmp .eq (s 115 1) 0) (x := bif m_cmp .eq (s 117 2) (s 115 2) then (bif m_cmp .eq (F_hasRange_1 s i n) 0 then (let z17 := F_find s 2; z17) else (bif m_cmp .ne (F_hasRange_0 s j n) 0 then ((1, (mvs s 118 i.toNatClampNeg 116 j.toNatClampNeg n.toNatClampNeg))) else (let z21 := F_find s 2; z21))) else (let z22 := F_find s 4; z22)) (y := let z23 := F_find s 1; z23) (fun x : Int32 × SG => x.2) (by (try dsimp only); exact (Fr.bifp (b := m_cmp .eq (s 117 2) (s 115 2)) (x := bif m_cmp .eq (F_hasRange_1 s i n) 0 then (let z17 := F_find s 2; z17) else (bif m_cmp .ne (F_hasRange_0 s j n) 0 then ((1, (mvs s 118 i.toNatClampNeg 116 j.toNatClampNeg n.toNatClampNeg))) else (let z21 := F_find s 2; z21))) (y := let z22 := F_find s 4; z22) (fun x : Int32 × SG => x.2) (by (try dsimp only); exact (Fr.bifp (b := m_cmp .eq (F_hasRange_1 s i n) 0) (x := let z17 := F_find s 2; z17) (y := bif m_cmp .ne (F_hasRange_0 s j n) 0 then ((1, (mvs s 118 i.toNatClampNeg 116 j.toNatClampNeg n.toNatClampNeg))) else (let z21 := F_find s 2; z21)) (fun x : Int32 × SG => x.2) (by (try dsimp only); exact (Fr.tr (s1 := s) (Fr.rf _ _) (Fr.wk (W2 := W_ccopy_10) (fr_find s 2) (by rfl)))) (by (try dsimp only); exact (Fr.bifp (b := m_cmp .ne (F_hasRange_0 s j n) 0) (x := (1, (mvs s 118 i.toNatClampNeg 116 j.toNatClampNeg n.toNatClampNeg))) (y := let z21 := F_find s 2; z21) (fun x : Int32 × SG => x.2) (by (try dsimp only); exact (Fr.mvs (by rfl) (Fr.rf _ _))) (by (try dsimp only); exact (Fr.tr (s1 := s) (Fr.rf _ _) (Fr.wk (W2 := W_ccopy_10) (fr_find s 2) (by rfl)))))))) (by (try dsimp only); exact (Fr.tr (s1 := s) (Fr.rf _ _) (Fr.wk (W2 := W_ccopy_10) (fr_find s 4) (by rfl)))))) (by (try dsimp only); exact (Fr.tr (s1 := s) (Fr.rf _ _) (Fr.wk (W2 := W_ccopy_10) (fr_find s 1) (by rfl)))))))) (by (try dsimp only); exact (Fr.rf _ _)))))
set_option maxRecDepth 20000 in
set_option maxHeartbeats 200000 in
theorem ux_ccopy_10 (s : SG) (i : Int32) (j : Int32) (n : Int32)  : UP m_X6_copy 0 (m_ent 8 [.ref 0, .int 1, .int i, .int 0, .int j, .int n]) [] s (Qb (F_ccopy_10 s i j n)) := by
  refine UP.stp 2 (i1 := 2) (L1 := [some (.ref 0), some (.int 1), some (.int i), some (.int 0), some (.int j), some (.int n), none, none]) (st1 := [.int 4, .int 1]) (s1 := s) rfl ?_
  refine UP.cI (M1 := m_X6_isBelow) (as := [.int 1, .int 4]) (rest := []) (T := F_isBelow s 1 4) rfl rfl (ux_isBelow s 1 4) ?_
  refine UP.spl (m_cmp .eq (F_isBelow s 1 4) 0) (((-2), s)) (bif m_cmp .ne (F_isBelow s 0 4) 0 then (bif m_cmp .ne (s 117 1) 0 then (let z9 := F_find s 1; z9) else (bif m_cmp .eq (s 115 1) 0 then (bif m_cmp .eq (s 117 2) (s 115 2) then (bif m_cmp .eq (F_hasRange_1 s i n) 0 then (let z17 := F_find s 2; z17) else (bif m_cmp .ne (F_hasRange_0 s j n) 0 then ((1, (mvs s 118 i.toNatClampNeg 116 j.toNatClampNeg n.toNatClampNeg))) else (let z21 := F_find s 2; z21))) else (let z22 := F_find s 4; z22)) else (let z23 := F_find s 1; z23))) else (((-2), s))) (by first | (dsimp only [F_ccopy_10]; done) | (dsimp only; done) | rfl) (fun cc => ?_) (fun cc => ?_)
  · skip
    refine UP.ifT rfl cc ?_
    refine UP.stp 1 (i1 := 9) (L1 := [some (.ref 0), some (.int 1), some (.int i), some (.int 0), some (.int j), some (.int n), none, none]) (st1 := [.int (-2)]) (s1 := s) rfl ?_
    exact UP.ret (r := some (.int (-2))) rfl ⟨by first | (dsimp only [F_ccopy_10]; done) | (dsimp only; done) | rfl, by first | (dsimp only [F_ccopy_10]; done) | (dsimp only; done) | rfl⟩
  · skip
    refine UP.ifF rfl cc ?_
    refine UP.stp 2 (i1 := 6) (L1 := [some (.ref 0), some (.int 1), some (.int i), some (.int 0), some (.int j), some (.int n), none, none]) (st1 := [.int 4, .int 0]) (s1 := s) rfl ?_
    refine UP.cI (M1 := m_X6_isBelow) (as := [.int 0, .int 4]) (rest := []) (T := F_isBelow s 0 4) rfl rfl (ux_isBelow s 0 4) ?_
    refine UP.spl (m_cmp .ne (F_isBelow s 0 4) 0) (bif m_cmp .ne (s 117 1) 0 then (let z9 := F_find s 1; z9) else (bif m_cmp .eq (s 115 1) 0 then (bif m_cmp .eq (s 117 2) (s 115 2) then (bif m_cmp .eq (F_hasRange_1 s i n) 0 then (let z17 := F_find s 2; z17) else (bif m_cmp .ne (F_hasRange_0 s j n) 0 then ((1, (mvs s 118 i.toNatClampNeg 116 j.toNatClampNeg n.toNatClampNeg))) else (let z21 := F_find s 2; z21))) else (let z22 := F_find s 4; z22)) else (let z23 := F_find s 1; z23))) (((-2), s)) (by first | (dsimp only [F_ccopy_10]; done) | (dsimp only; done) | rfl) (fun cc => ?_) (fun cc => ?_)
    · skip
      refine UP.ifT rfl cc ?_
      refine UP.stp 3 (i1 := 13) (L1 := [some (.ref 0), some (.int 1), some (.int i), some (.int 0), some (.int j), some (.int n), none, none]) (st1 := [.int 1, .ref 9]) (s1 := s) rfl ?_
      refine UP.aald (e := 1) (r := 117) rfl rfl (by omega) rfl ?_
      refine UP.stp 4 (i1 := 18) (L1 := [some (.ref 0), some (.int 1), some (.int i), some (.int 0), some (.int j), some (.int n), some (.ref 117), none]) (st1 := [.int 0, .ref 9]) (s1 := s) rfl ?_
      refine UP.aald (e := 0) (r := 115) rfl rfl (by omega) rfl ?_
      refine UP.stp 3 (i1 := 22) (L1 := [some (.ref 0), some (.int 1), some (.int i), some (.int 0), some (.int j), some (.int n), some (.ref 117), some (.ref 115)]) (st1 := [.int (s 117 1)]) (s1 := s) rfl ?_
      refine UP.spl (m_cmp .ne (s 117 1) 0) (let z9 := F_find s 1; z9) (bif m_cmp .eq (s 115 1) 0 then (bif m_cmp .eq (s 117 2) (s 115 2) then (bif m_cmp .eq (F_hasRange_1 s i n) 0 then (let z17 := F_find s 2; z17) else (bif m_cmp .ne (F_hasRange_0 s j n) 0 then ((1, (mvs s 118 i.toNatClampNeg 116 j.toNatClampNeg n.toNatClampNeg))) else (let z21 := F_find s 2; z21))) else (let z22 := F_find s 4; z22)) else (let z23 := F_find s 1; z23)) (by first | (dsimp only [F_ccopy_10]; done) | (dsimp only; done) | rfl) (fun cc => ?_) (fun cc => ?_)
      · skip
        refine UP.ifT rfl cc ?_
        refine UP.stp 2 (i1 := 28) (L1 := [some (.ref 0), some (.int 1), some (.int i), some (.int 0), some (.int j), some (.int n), some (.ref 117), some (.ref 115)]) (st1 := [.int 1, .ref 0]) (s1 := s) rfl ?_
        refine UP.cB (M1 := m_X6_find) (as := [.ref 0, .int 1]) (rest := []) (T := F_find s 1) rfl rfl (ux_find s 1) (fun z9 e9 => ?_)
        exact UP.ret (r := some (.int z9.1)) rfl ⟨by subst e9; first | (dsimp only [F_ccopy_10]; done) | (dsimp only; done) | rfl, by subst e9; first | (dsimp only [F_ccopy_10]; done) | (dsimp only; done) | rfl⟩
      · skip
        refine UP.ifF rfl cc ?_
        refine UP.stp 2 (i1 := 25) (L1 := [some (.ref 0), some (.int 1), some (.int i), some (.int 0), some (.int j), some (.int n), some (.ref 117), some (.ref 115)]) (st1 := [.int (s 115 1)]) (s1 := s) rfl ?_
        refine UP.spl (m_cmp .eq (s 115 1) 0) (bif m_cmp .eq (s 117 2) (s 115 2) then (bif m_cmp .eq (F_hasRange_1 s i n) 0 then (let z17 := F_find s 2; z17) else (bif m_cmp .ne (F_hasRange_0 s j n) 0 then ((1, (mvs s 118 i.toNatClampNeg 116 j.toNatClampNeg n.toNatClampNeg))) else (let z21 := F_find s 2; z21))) else (let z22 := F_find s 4; z22)) (let z23 := F_find s 1; z23) (by first | (dsimp only [F_ccopy_10]; done) | (dsimp only; done) | rfl) (fun cc => ?_) (fun cc => ?_)
        · skip
          refine UP.ifT rfl cc ?_
          refine UP.stp 4 (i1 := 34) (L1 := [some (.ref 0), some (.int 1), some (.int i), some (.int 0), some (.int j), some (.int n), some (.ref 117), some (.ref 115)]) (st1 := [.int (s 115 2), .int (s 117 2)]) (s1 := s) rfl ?_
          refine UP.spl (m_cmp .eq (s 117 2) (s 115 2)) (bif m_cmp .eq (F_hasRange_1 s i n) 0 then (let z17 := F_find s 2; z17) else (bif m_cmp .ne (F_hasRange_0 s j n) 0 then ((1, (mvs s 118 i.toNatClampNeg 116 j.toNatClampNeg n.toNatClampNeg))) else (let z21 := F_find s 2; z21))) (let z22 := F_find s 4; z22) (by first | (dsimp only [F_ccopy_10]; done) | (dsimp only; done) | rfl) (fun cc => ?_) (fun cc => ?_)
          · skip
            refine UP.icT rfl cc ?_
            refine UP.stp 3 (i1 := 42) (L1 := [some (.ref 0), some (.int 1), some (.int i), some (.int 0), some (.int j), some (.int n), some (.ref 117), some (.ref 115)]) (st1 := [.int n, .int i, .ref 117]) (s1 := s) rfl ?_
            refine UP.cI (M1 := m_X3_hasRange) (as := [.ref 117, .int i, .int n]) (rest := []) (T := F_hasRange_1 s i n) rfl rfl (ux_hasRange_1 s i n) ?_
            refine UP.spl (m_cmp .eq (F_hasRange_1 s i n) 0) (let z17 := F_find s 2; z17) (bif m_cmp .ne (F_hasRange_0 s j n) 0 then ((1, (mvs s 118 i.toNatClampNeg 116 j.toNatClampNeg n.toNatClampNeg))) else (let z21 := F_find s 2; z21)) (by first | (dsimp only [F_ccopy_10]; done) | (dsimp only; done) | rfl) (fun cc => ?_) (fun cc => ?_)
            · skip
              refine UP.ifT rfl cc ?_
              refine UP.stp 2 (i1 := 51) (L1 := [some (.ref 0), some (.int 1), some (.int i), some (.int 0), some (.int j), some (.int n), some (.ref 117), some (.ref 115)]) (st1 := [.int 2, .ref 0]) (s1 := s) rfl ?_
              refine UP.cB (M1 := m_X6_find) (as := [.ref 0, .int 2]) (rest := []) (T := F_find s 2) rfl rfl (ux_find s 2) (fun z17 e17 => ?_)
              exact UP.ret (r := some (.int z17.1)) rfl ⟨by subst e17; first | (dsimp only [F_ccopy_10]; done) | (dsimp only; done) | rfl, by subst e17; first | (dsimp only [F_ccopy_10]; done) | (dsimp only; done) | rfl⟩
            · skip
              refine UP.ifF rfl cc ?_
              refine UP.stp 3 (i1 := 47) (L1 := [some (.ref 0), some (.int 1), some (.int i), some (.int 0), some (.int j), some (.int n), some (.ref 117), some (.ref 115)]) (st1 := [.int n, .int j, .ref 115]) (s1 := s) rfl ?_
              refine UP.cI (M1 := m_X3_hasRange) (as := [.ref 115, .int j, .int n]) (rest := []) (T := F_hasRange_0 s j n) rfl rfl (ux_hasRange_0 s j n) ?_
              refine UP.spl (m_cmp .ne (F_hasRange_0 s j n) 0) ((1, (mvs s 118 i.toNatClampNeg 116 j.toNatClampNeg n.toNatClampNeg))) (let z21 := F_find s 2; z21) (by first | (dsimp only [F_ccopy_10]; done) | (dsimp only; done) | rfl) (fun cc => ?_) (fun cc => ?_)
              · skip
                refine UP.ifT rfl cc ?_
                refine UP.stp 9 (i1 := 62) (L1 := [some (.ref 0), some (.int 1), some (.int i), some (.int 0), some (.int j), some (.int n), some (.ref 117), some (.ref 115)]) (st1 := [.int 1]) (s1 := (mvs s 118 i.toNatClampNeg 116 j.toNatClampNeg n.toNatClampNeg)) rfl ?_
                exact UP.ret (r := some (.int 1)) rfl ⟨by first | (dsimp only [F_ccopy_10]; done) | (dsimp only; done) | rfl, by first | (dsimp only [F_ccopy_10]; done) | (dsimp only; done) | rfl⟩
              · skip
                refine UP.ifF rfl cc ?_
                refine UP.stp 2 (i1 := 51) (L1 := [some (.ref 0), some (.int 1), some (.int i), some (.int 0), some (.int j), some (.int n), some (.ref 117), some (.ref 115)]) (st1 := [.int 2, .ref 0]) (s1 := s) rfl ?_
                refine UP.cB (M1 := m_X6_find) (as := [.ref 0, .int 2]) (rest := []) (T := F_find s 2) rfl rfl (ux_find s 2) (fun z21 e21 => ?_)
                exact UP.ret (r := some (.int z21.1)) rfl ⟨by subst e21; first | (dsimp only [F_ccopy_10]; done) | (dsimp only; done) | rfl, by subst e21; first | (dsimp only [F_ccopy_10]; done) | (dsimp only; done) | rfl⟩
          · skip
            refine UP.icF rfl cc ?_
            refine UP.stp 2 (i1 := 37) (L1 := [some (.ref 0), some (.int 1), some (.int i), some (.int 0), some (.int j), some (.int n), some (.ref 117), some (.ref 115)]) (st1 := [.int 4, .ref 0]) (s1 := s) rfl ?_
            refine UP.cB (M1 := m_X6_find) (as := [.ref 0, .int 4]) (rest := []) (T := F_find s 4) rfl rfl (ux_find s 4) (fun z22 e22 => ?_)
            exact UP.ret (r := some (.int z22.1)) rfl ⟨by subst e22; first | (dsimp only [F_ccopy_10]; done) | (dsimp only; done) | rfl, by subst e22; first | (dsimp only [F_ccopy_10]; done) | (dsimp only; done) | rfl⟩
        · skip
          refine UP.ifF rfl cc ?_
          refine UP.stp 2 (i1 := 28) (L1 := [some (.ref 0), some (.int 1), some (.int i), some (.int 0), some (.int j), some (.int n), some (.ref 117), some (.ref 115)]) (st1 := [.int 1, .ref 0]) (s1 := s) rfl ?_
          refine UP.cB (M1 := m_X6_find) (as := [.ref 0, .int 1]) (rest := []) (T := F_find s 1) rfl rfl (ux_find s 1) (fun z23 e23 => ?_)
          exact UP.ret (r := some (.int z23.1)) rfl ⟨by subst e23; first | (dsimp only [F_ccopy_10]; done) | (dsimp only; done) | rfl, by subst e23; first | (dsimp only [F_ccopy_10]; done) | (dsimp only; done) | rfl⟩
    · skip
      refine UP.ifF rfl cc ?_
      refine UP.stp 1 (i1 := 9) (L1 := [some (.ref 0), some (.int 1), some (.int i), some (.int 0), some (.int j), some (.int n), none, none]) (st1 := [.int (-2)]) (s1 := s) rfl ?_
      exact UP.ret (r := some (.int (-2))) rfl ⟨by first | (dsimp only [F_ccopy_10]; done) | (dsimp only; done) | rfl, by first | (dsimp only [F_ccopy_10]; done) | (dsimp only; done) | rfl⟩
end
section
def W_ccopy_11 : List (Nat × Nat × Option Nat) := [(118, 118, none), (0, 0, some 4)]
def F_ccopy_11 (s : SG) (i : Int32) (j : Int32) (n : Int32) : Int32 × SG := bif m_cmp .eq (F_isBelow s 1 4) 0 then (((-2), s)) else (bif m_cmp .ne (F_isBelow s 1 4) 0 then (bif m_cmp .ne (s 117 1) 0 then (let z9 := F_find s 1; z9) else (bif m_cmp .eq (s 117 1) 0 then (bif m_cmp .eq (s 117 2) (s 117 2) then (bif m_cmp .eq (F_hasRange_1 s i n) 0 then (let z17 := F_find s 2; z17) else (bif m_cmp .ne (F_hasRange_1 s j n) 0 then ((1, (mvs s 118 i.toNatClampNeg 118 j.toNatClampNeg n.toNatClampNeg))) else (let z21 := F_find s 2; z21))) else (let z22 := F_find s 4; z22)) else (let z23 := F_find s 1; z23))) else (((-2), s)))
set_option maxRecDepth 20000 in
set_option maxHeartbeats 200000 in
theorem fr_ccopy_11 (s : SG) (i : Int32) (j : Int32) (n : Int32)  : Fr W_ccopy_11 s (F_ccopy_11 s i j n).2 := by dsimp only [F_ccopy_11]; exact (Fr.bifp (b := m_cmp .eq (F_isBelow s 1 4) 0) (x := ((-2), s)) (y := bif m_cmp .ne (F_isBelow s 1 4) 0 then (bif m_cmp .ne (s 117 1) 0 then (let z9 := F_find s 1; z9) else (bif m_cmp .eq (s 117 1) 0 then (bif m_cmp .eq (s 117 2) (s 117 2) then (bif m_cmp .eq (F_hasRange_1 s i n) 0 then (let z17 := F_find s 2; z17) else (bif m_cmp .ne (F_hasRange_1 s j n) 0 then ((1, (mvs s 118 i.toNatClampNeg 118 j.toNatClampNeg n.toNatClampNeg))) else (let z21 := F_find s 2; z21))) else (let z22 := F_find s 4; z22)) else (let z23 := F_find s 1; z23))) else (((-2), s))) (fun x : Int32 × SG => x.2) (by (try dsimp only); exact (Fr.rf _ _)) (by (try dsimp only); exact (Fr.bifp (b := m_cmp .ne (F_isBelow s 1 4) 0) (x := bif m_cmp .ne (s 117 1) 0 then (let z9 := F_find s 1; z9) else (bif m_cmp .eq (s 117 1) 0 then (bif m_cmp .eq (s 117 2) (s 117 2) then (bif m_cmp .eq (F_hasRange_1 s i n) 0 then (let z17 := F_find s 2; z17) else (bif m_cmp .ne (F_hasRange_1 s j n) 0 then ((1, (mvs s 118 i.toNatClampNeg 118 j.toNatClampNeg n.toNatClampNeg))) else (let z21 := F_find s 2; z21))) else (let z22 := F_find s 4; z22)) else (let z23 := F_find s 1; z23))) (y := ((-2), s)) (fun x : Int32 × SG => x.2) (by (try dsimp only); exact (Fr.bifp (b := m_cmp .ne (s 117 1) 0) (x := let z9 := F_find s 1; z9) (y := bif m_cmp .eq (s 117 1) 0 then (bif m_cmp .eq (s 117 2) (s 117 2) then (bif m_cmp .eq (F_hasRange_1 s i n) 0 then (let z17 := F_find s 2; z17) else (bif m_cmp .ne (F_hasRange_1 s j n) 0 then ((1, (mvs s 118 i.toNatClampNeg 118 j.toNatClampNeg n.toNatClampNeg))) else (let z21 := F_find s 2; z21))) else (let z22 := F_find s 4; z22)) else (let z23 := F_find s 1; z23)) (fun x : Int32 × SG => x.2) (by (try dsimp only); exact (Fr.tr (s1 := s) (Fr.rf _ _) (Fr.wk (W2 := W_ccopy_11) (fr_find s 1) (by rfl)))) (by (try dsimp only); exact (Fr.bifp (b := m_cmp .eq (s 117 1) 0) (x := bif m_cmp .eq (s 117 2) (s 117 2) then (bif m_cmp .eq (F_hasRange_1 s i n) 0 then (let z17 := F_find s 2; z17) else (bif m_cmp .ne (F_hasRange_1 s j n) 0 then ((1, (mvs s 118 i.toNatClampNeg 118 j.toNatClampNeg n.toNatClampNeg))) else (let z21 := F_find s 2; z21))) else (let z22 := F_find s 4; z22)) (y := let z23 := F_find s 1; z23) (fun x : Int32 × SG => x.2) (by (try dsimp only); exact (Fr.bifp (b := m_cmp .eq (s 117 2) (s 117 2)) (x := bif m_cmp .eq (F_hasRange_1 s i n) 0 then (let z17 := F_find s 2; z17) else (bif m_cmp .ne (F_hasRange_1 s j n) 0 then ((1, (mvs s 118 i.toNatClampNeg 118 j.toNatClampNeg n.toNatClampNeg))) else (let z21 := F_find s 2; z21))) (y := let z22 := F_find s 4; z22) (fun x : Int32 × SG => x.2) (by (try dsimp only); exact (Fr.bifp (b := m_cmp .eq (F_hasRange_1 s i n) 0) (x := let z17 := F_find s 2; z17) (y := bif m_cmp .ne (F_hasRange_1 s j n) 0 then ((1, (mvs s 118 i.toNatClampNeg 118 j.toNatClampNeg n.toNatClampNeg))) else (let z21 := F_find s 2; z21)) (fun x : Int32 × SG => x.2) (by (try dsimp only); exact (Fr.tr (s1 := s) (Fr.rf _ _) (Fr.wk (W2 := W_ccopy_11) (fr_find s 2) (by rfl)))) (by (try dsimp only); exact (Fr.bifp (b := m_cmp .ne (F_hasRange_1 s j n) 0) (x := (1, (mvs s 118 i.toNatClampNeg 118 j.toNatClampNeg n.toNatClampNeg))) (y := let z21 := F_find s 2; z21) (fun x : Int32 × SG => x.2) (by (try dsimp only); exact (Fr.mvs (by rfl) (Fr.rf _ _))) (by (try dsimp only); exact (Fr.tr (s1 := s) (Fr.rf _ _) (Fr.wk (W2 := W_ccopy_11) (fr_find s 2) (by rfl)))))))) (by (try dsimp only); exact (Fr.tr (s1 := s) (Fr.rf _ _) (Fr.wk (W2 := W_ccopy_11) (fr_find s 4) (by rfl)))))) (by (try dsimp only); exact (Fr.tr (s1 := s) (Fr.rf _ _) (Fr.wk (W2 := W_ccopy_11) (fr_find s 1) (by rfl)))))))) (by (try dsimp only); exact (Fr.rf _ _)))))
set_option maxRecDepth 20000 in
set_option maxHeartbeats 200000 in
theorem ux_ccopy_11 (s : SG) (i : Int32) (j : Int32) (n : Int32)  : UP m_X6_copy 0 (m_ent 8 [.ref 0, .int 1, .int i, .int 1, .int j, .int n]) [] s (Qb (F_ccopy_11 s i j n)) := by
  refine UP.stp 2 (i1 := 2) (L1 := [some (.ref 0), some (.int 1), some (.int i), some (.int 1), some (.int j), some (.int n), none, none]) (st1 := [.int 4, .int 1]) (s1 := s) rfl ?_
  refine UP.cI (M1 := m_X6_isBelow) (as := [.int 1, .int 4]) (rest := []) (T := F_isBelow s 1 4) rfl rfl (ux_isBelow s 1 4) ?_
  refine UP.spl (m_cmp .eq (F_isBelow s 1 4) 0) (((-2), s)) (bif m_cmp .ne (F_isBelow s 1 4) 0 then (bif m_cmp .ne (s 117 1) 0 then (let z9 := F_find s 1; z9) else (bif m_cmp .eq (s 117 1) 0 then (bif m_cmp .eq (s 117 2) (s 117 2) then (bif m_cmp .eq (F_hasRange_1 s i n) 0 then (let z17 := F_find s 2; z17) else (bif m_cmp .ne (F_hasRange_1 s j n) 0 then ((1, (mvs s 118 i.toNatClampNeg 118 j.toNatClampNeg n.toNatClampNeg))) else (let z21 := F_find s 2; z21))) else (let z22 := F_find s 4; z22)) else (let z23 := F_find s 1; z23))) else (((-2), s))) (by first | (dsimp only [F_ccopy_11]; done) | (dsimp only; done) | rfl) (fun cc => ?_) (fun cc => ?_)
  · skip
    refine UP.ifT rfl cc ?_
    refine UP.stp 1 (i1 := 9) (L1 := [some (.ref 0), some (.int 1), some (.int i), some (.int 1), some (.int j), some (.int n), none, none]) (st1 := [.int (-2)]) (s1 := s) rfl ?_
    exact UP.ret (r := some (.int (-2))) rfl ⟨by first | (dsimp only [F_ccopy_11]; done) | (dsimp only; done) | rfl, by first | (dsimp only [F_ccopy_11]; done) | (dsimp only; done) | rfl⟩
  · skip
    refine UP.ifF rfl cc ?_
    refine UP.stp 2 (i1 := 6) (L1 := [some (.ref 0), some (.int 1), some (.int i), some (.int 1), some (.int j), some (.int n), none, none]) (st1 := [.int 4, .int 1]) (s1 := s) rfl ?_
    refine UP.cI (M1 := m_X6_isBelow) (as := [.int 1, .int 4]) (rest := []) (T := F_isBelow s 1 4) rfl rfl (ux_isBelow s 1 4) ?_
    refine UP.spl (m_cmp .ne (F_isBelow s 1 4) 0) (bif m_cmp .ne (s 117 1) 0 then (let z9 := F_find s 1; z9) else (bif m_cmp .eq (s 117 1) 0 then (bif m_cmp .eq (s 117 2) (s 117 2) then (bif m_cmp .eq (F_hasRange_1 s i n) 0 then (let z17 := F_find s 2; z17) else (bif m_cmp .ne (F_hasRange_1 s j n) 0 then ((1, (mvs s 118 i.toNatClampNeg 118 j.toNatClampNeg n.toNatClampNeg))) else (let z21 := F_find s 2; z21))) else (let z22 := F_find s 4; z22)) else (let z23 := F_find s 1; z23))) (((-2), s)) (by first | (dsimp only [F_ccopy_11]; done) | (dsimp only; done) | rfl) (fun cc => ?_) (fun cc => ?_)
    · skip
      refine UP.ifT rfl cc ?_
      refine UP.stp 3 (i1 := 13) (L1 := [some (.ref 0), some (.int 1), some (.int i), some (.int 1), some (.int j), some (.int n), none, none]) (st1 := [.int 1, .ref 9]) (s1 := s) rfl ?_
      refine UP.aald (e := 1) (r := 117) rfl rfl (by omega) rfl ?_
      refine UP.stp 4 (i1 := 18) (L1 := [some (.ref 0), some (.int 1), some (.int i), some (.int 1), some (.int j), some (.int n), some (.ref 117), none]) (st1 := [.int 1, .ref 9]) (s1 := s) rfl ?_
      refine UP.aald (e := 1) (r := 117) rfl rfl (by omega) rfl ?_
      refine UP.stp 3 (i1 := 22) (L1 := [some (.ref 0), some (.int 1), some (.int i), some (.int 1), some (.int j), some (.int n), some (.ref 117), some (.ref 117)]) (st1 := [.int (s 117 1)]) (s1 := s) rfl ?_
      refine UP.spl (m_cmp .ne (s 117 1) 0) (let z9 := F_find s 1; z9) (bif m_cmp .eq (s 117 1) 0 then (bif m_cmp .eq (s 117 2) (s 117 2) then (bif m_cmp .eq (F_hasRange_1 s i n) 0 then (let z17 := F_find s 2; z17) else (bif m_cmp .ne (F_hasRange_1 s j n) 0 then ((1, (mvs s 118 i.toNatClampNeg 118 j.toNatClampNeg n.toNatClampNeg))) else (let z21 := F_find s 2; z21))) else (let z22 := F_find s 4; z22)) else (let z23 := F_find s 1; z23)) (by first | (dsimp only [F_ccopy_11]; done) | (dsimp only; done) | rfl) (fun cc => ?_) (fun cc => ?_)
      · skip
        refine UP.ifT rfl cc ?_
        refine UP.stp 2 (i1 := 28) (L1 := [some (.ref 0), some (.int 1), some (.int i), some (.int 1), some (.int j), some (.int n), some (.ref 117), some (.ref 117)]) (st1 := [.int 1, .ref 0]) (s1 := s) rfl ?_
        refine UP.cB (M1 := m_X6_find) (as := [.ref 0, .int 1]) (rest := []) (T := F_find s 1) rfl rfl (ux_find s 1) (fun z9 e9 => ?_)
        exact UP.ret (r := some (.int z9.1)) rfl ⟨by subst e9; first | (dsimp only [F_ccopy_11]; done) | (dsimp only; done) | rfl, by subst e9; first | (dsimp only [F_ccopy_11]; done) | (dsimp only; done) | rfl⟩
      · skip
        refine UP.ifF rfl cc ?_
        refine UP.stp 2 (i1 := 25) (L1 := [some (.ref 0), some (.int 1), some (.int i), some (.int 1), some (.int j), some (.int n), some (.ref 117), some (.ref 117)]) (st1 := [.int (s 117 1)]) (s1 := s) rfl ?_
        refine UP.spl (m_cmp .eq (s 117 1) 0) (bif m_cmp .eq (s 117 2) (s 117 2) then (bif m_cmp .eq (F_hasRange_1 s i n) 0 then (let z17 := F_find s 2; z17) else (bif m_cmp .ne (F_hasRange_1 s j n) 0 then ((1, (mvs s 118 i.toNatClampNeg 118 j.toNatClampNeg n.toNatClampNeg))) else (let z21 := F_find s 2; z21))) else (let z22 := F_find s 4; z22)) (let z23 := F_find s 1; z23) (by first | (dsimp only [F_ccopy_11]; done) | (dsimp only; done) | rfl) (fun cc => ?_) (fun cc => ?_)
        · skip
          refine UP.ifT rfl cc ?_
          refine UP.stp 4 (i1 := 34) (L1 := [some (.ref 0), some (.int 1), some (.int i), some (.int 1), some (.int j), some (.int n), some (.ref 117), some (.ref 117)]) (st1 := [.int (s 117 2), .int (s 117 2)]) (s1 := s) rfl ?_
          refine UP.spl (m_cmp .eq (s 117 2) (s 117 2)) (bif m_cmp .eq (F_hasRange_1 s i n) 0 then (let z17 := F_find s 2; z17) else (bif m_cmp .ne (F_hasRange_1 s j n) 0 then ((1, (mvs s 118 i.toNatClampNeg 118 j.toNatClampNeg n.toNatClampNeg))) else (let z21 := F_find s 2; z21))) (let z22 := F_find s 4; z22) (by first | (dsimp only [F_ccopy_11]; done) | (dsimp only; done) | rfl) (fun cc => ?_) (fun cc => ?_)
          · skip
            refine UP.icT rfl cc ?_
            refine UP.stp 3 (i1 := 42) (L1 := [some (.ref 0), some (.int 1), some (.int i), some (.int 1), some (.int j), some (.int n), some (.ref 117), some (.ref 117)]) (st1 := [.int n, .int i, .ref 117]) (s1 := s) rfl ?_
            refine UP.cI (M1 := m_X3_hasRange) (as := [.ref 117, .int i, .int n]) (rest := []) (T := F_hasRange_1 s i n) rfl rfl (ux_hasRange_1 s i n) ?_
            refine UP.spl (m_cmp .eq (F_hasRange_1 s i n) 0) (let z17 := F_find s 2; z17) (bif m_cmp .ne (F_hasRange_1 s j n) 0 then ((1, (mvs s 118 i.toNatClampNeg 118 j.toNatClampNeg n.toNatClampNeg))) else (let z21 := F_find s 2; z21)) (by first | (dsimp only [F_ccopy_11]; done) | (dsimp only; done) | rfl) (fun cc => ?_) (fun cc => ?_)
            · skip
              refine UP.ifT rfl cc ?_
              refine UP.stp 2 (i1 := 51) (L1 := [some (.ref 0), some (.int 1), some (.int i), some (.int 1), some (.int j), some (.int n), some (.ref 117), some (.ref 117)]) (st1 := [.int 2, .ref 0]) (s1 := s) rfl ?_
              refine UP.cB (M1 := m_X6_find) (as := [.ref 0, .int 2]) (rest := []) (T := F_find s 2) rfl rfl (ux_find s 2) (fun z17 e17 => ?_)
              exact UP.ret (r := some (.int z17.1)) rfl ⟨by subst e17; first | (dsimp only [F_ccopy_11]; done) | (dsimp only; done) | rfl, by subst e17; first | (dsimp only [F_ccopy_11]; done) | (dsimp only; done) | rfl⟩
            · skip
              refine UP.ifF rfl cc ?_
              refine UP.stp 3 (i1 := 47) (L1 := [some (.ref 0), some (.int 1), some (.int i), some (.int 1), some (.int j), some (.int n), some (.ref 117), some (.ref 117)]) (st1 := [.int n, .int j, .ref 117]) (s1 := s) rfl ?_
              refine UP.cI (M1 := m_X3_hasRange) (as := [.ref 117, .int j, .int n]) (rest := []) (T := F_hasRange_1 s j n) rfl rfl (ux_hasRange_1 s j n) ?_
              refine UP.spl (m_cmp .ne (F_hasRange_1 s j n) 0) ((1, (mvs s 118 i.toNatClampNeg 118 j.toNatClampNeg n.toNatClampNeg))) (let z21 := F_find s 2; z21) (by first | (dsimp only [F_ccopy_11]; done) | (dsimp only; done) | rfl) (fun cc => ?_) (fun cc => ?_)
              · skip
                refine UP.ifT rfl cc ?_
                refine UP.stp 9 (i1 := 62) (L1 := [some (.ref 0), some (.int 1), some (.int i), some (.int 1), some (.int j), some (.int n), some (.ref 117), some (.ref 117)]) (st1 := [.int 1]) (s1 := (mvs s 118 i.toNatClampNeg 118 j.toNatClampNeg n.toNatClampNeg)) rfl ?_
                exact UP.ret (r := some (.int 1)) rfl ⟨by first | (dsimp only [F_ccopy_11]; done) | (dsimp only; done) | rfl, by first | (dsimp only [F_ccopy_11]; done) | (dsimp only; done) | rfl⟩
              · skip
                refine UP.ifF rfl cc ?_
                refine UP.stp 2 (i1 := 51) (L1 := [some (.ref 0), some (.int 1), some (.int i), some (.int 1), some (.int j), some (.int n), some (.ref 117), some (.ref 117)]) (st1 := [.int 2, .ref 0]) (s1 := s) rfl ?_
                refine UP.cB (M1 := m_X6_find) (as := [.ref 0, .int 2]) (rest := []) (T := F_find s 2) rfl rfl (ux_find s 2) (fun z21 e21 => ?_)
                exact UP.ret (r := some (.int z21.1)) rfl ⟨by subst e21; first | (dsimp only [F_ccopy_11]; done) | (dsimp only; done) | rfl, by subst e21; first | (dsimp only [F_ccopy_11]; done) | (dsimp only; done) | rfl⟩
          · skip
            refine UP.icF rfl cc ?_
            refine UP.stp 2 (i1 := 37) (L1 := [some (.ref 0), some (.int 1), some (.int i), some (.int 1), some (.int j), some (.int n), some (.ref 117), some (.ref 117)]) (st1 := [.int 4, .ref 0]) (s1 := s) rfl ?_
            refine UP.cB (M1 := m_X6_find) (as := [.ref 0, .int 4]) (rest := []) (T := F_find s 4) rfl rfl (ux_find s 4) (fun z22 e22 => ?_)
            exact UP.ret (r := some (.int z22.1)) rfl ⟨by subst e22; first | (dsimp only [F_ccopy_11]; done) | (dsimp only; done) | rfl, by subst e22; first | (dsimp only [F_ccopy_11]; done) | (dsimp only; done) | rfl⟩
        · skip
          refine UP.ifF rfl cc ?_
          refine UP.stp 2 (i1 := 28) (L1 := [some (.ref 0), some (.int 1), some (.int i), some (.int 1), some (.int j), some (.int n), some (.ref 117), some (.ref 117)]) (st1 := [.int 1, .ref 0]) (s1 := s) rfl ?_
          refine UP.cB (M1 := m_X6_find) (as := [.ref 0, .int 1]) (rest := []) (T := F_find s 1) rfl rfl (ux_find s 1) (fun z23 e23 => ?_)
          exact UP.ret (r := some (.int z23.1)) rfl ⟨by subst e23; first | (dsimp only [F_ccopy_11]; done) | (dsimp only; done) | rfl, by subst e23; first | (dsimp only [F_ccopy_11]; done) | (dsimp only; done) | rfl⟩
    · skip
      refine UP.ifF rfl cc ?_
      refine UP.stp 1 (i1 := 9) (L1 := [some (.ref 0), some (.int 1), some (.int i), some (.int 1), some (.int j), some (.int n), none, none]) (st1 := [.int (-2)]) (s1 := s) rfl ?_
      exact UP.ret (r := some (.int (-2))) rfl ⟨by first | (dsimp only [F_ccopy_11]; done) | (dsimp only; done) | rfl, by first | (dsimp only [F_ccopy_11]; done) | (dsimp only; done) | rfl⟩
end
section
def W_ccopy_12 : List (Nat × Nat × Option Nat) := [(120, 120, none), (0, 0, some 4)]
def F_ccopy_12 (s : SG) (i : Int32) (j : Int32) (n : Int32) : Int32 × SG := bif m_cmp .eq (F_isBelow s 1 4) 0 then (((-2), s)) else (bif m_cmp .ne (F_isBelow s 2 4) 0 then (bif m_cmp .ne (s 117 1) 0 then (let z9 := F_find s 1; z9) else (bif m_cmp .eq (s 119 1) 0 then (bif m_cmp .eq (s 117 2) (s 119 2) then (bif m_cmp .eq (F_hasRange_1 s i n) 0 then (let z17 := F_find s 2; z17) else (bif m_cmp .ne (F_hasRange_2 s j n) 0 then ((1, (mvs s 118 i.toNatClampNeg 120 j.toNatClampNeg n.toNatClampNeg))) else (let z21 := F_find s 2; z21))) else (let z22 := F_find s 4; z22)) else (let z23 := F_find s 1; z23))) else (((-2), s)))
set_option maxRecDepth 20000 in
set_option maxHeartbeats 200000 in
theorem fr_ccopy_12 (s : SG) (i : Int32) (j : Int32) (n : Int32)  : Fr W_ccopy_12 s (F_ccopy_12 s i j n).2 := by dsimp only [F_ccopy_12]; exact (Fr.bifp (b := m_cmp .eq (F_isBelow s 1 4) 0) (x := ((-2), s)) (y := bif m_cmp .ne (F_isBelow s 2 4) 0 then (bif m_cmp .ne (s 117 1) 0 then (let z9 := F_find s 1; z9) else (bif m_cmp .eq (s 119 1) 0 then (bif m_cmp .eq (s 117 2) (s 119 2) then (bif m_cmp .eq (F_hasRange_1 s i n) 0 then (let z17 := F_find s 2; z17) else (bif m_cmp .ne (F_hasRange_2 s j n) 0 then ((1, (mvs s 118 i.toNatClampNeg 120 j.toNatClampNeg n.toNatClampNeg))) else (let z21 := F_find s 2; z21))) else (let z22 := F_find s 4; z22)) else (let z23 := F_find s 1; z23))) else (((-2), s))) (fun x : Int32 × SG => x.2) (by (try dsimp only); exact (Fr.rf _ _)) (by (try dsimp only); exact (Fr.bifp (b := m_cmp .ne (F_isBelow s 2 4) 0) (x := bif m_cmp .ne (s 117 1) 0 then (let z9 := F_find s 1; z9) else (bif m_cmp .eq (s 119 1) 0 then (bif m_cmp .eq (s 117 2) (s 119 2) then (bif m_cmp .eq (F_hasRange_1 s i n) 0 then (let z17 := F_find s 2; z17) else (bif m_cmp .ne (F_hasRange_2 s j n) 0 then ((1, (mvs s 118 i.toNatClampNeg 120 j.toNatClampNeg n.toNatClampNeg))) else (let z21 := F_find s 2; z21))) else (let z22 := F_find s 4; z22)) else (let z23 := F_find s 1; z23))) (y := ((-2), s)) (fun x : Int32 × SG => x.2) (by (try dsimp only); exact (Fr.bifp (b := m_cmp .ne (s 117 1) 0) (x := let z9 := F_find s 1; z9) (y := bif m_cmp .eq (s 119 1) 0 then (bif m_cmp .eq (s 117 2) (s 119 2) then (bif m_cmp .eq (F_hasRange_1 s i n) 0 then (let z17 := F_find s 2; z17) else (bif m_cmp .ne (F_hasRange_2 s j n) 0 then ((1, (mvs s 118 i.toNatClampNeg 120 j.toNatClampNeg n.toNatClampNeg))) else (let z21 := F_find s 2; z21))) else (let z22 := F_find s 4; z22)) else (let z23 := F_find s 1; z23)) (fun x : Int32 × SG => x.2) (by (try dsimp only); exact (Fr.tr (s1 := s) (Fr.rf _ _) (Fr.wk (W2 := W_ccopy_12) (fr_find s 1) (by rfl)))) (by (try dsimp only); exact (Fr.bifp (b := m_cmp .eq (s 119 1) 0) (x := bif m_cmp .eq (s 117 2) (s 119 2) then (bif m_cmp .eq (F_hasRange_1 s i n) 0 then (let z17 := F_find s 2; z17) else (bif m_cmp .ne (F_hasRange_2 s j n) 0 then ((1, (mvs s 118 i.toNatClampNeg 120 j.toNatClampNeg n.toNatClampNeg))) else (let z21 := F_find s 2; z21))) else (let z22 := F_find s 4; z22)) (y := let z23 := F_find s 1; z23) (fun x : Int32 × SG => x.2) (by (try dsimp only); exact (Fr.bifp (b := m_cmp .eq (s 117 2) (s 119 2)) (x := bif m_cmp .eq (F_hasRange_1 s i n) 0 then (let z17 := F_find s 2; z17) else (bif m_cmp .ne (F_hasRange_2 s j n) 0 then ((1, (mvs s 118 i.toNatClampNeg 120 j.toNatClampNeg n.toNatClampNeg))) else (let z21 := F_find s 2; z21))) (y := let z22 := F_find s 4; z22) (fun x : Int32 × SG => x.2) (by (try dsimp only); exact (Fr.bifp (b := m_cmp .eq (F_hasRange_1 s i n) 0) (x := let z17 := F_find s 2; z17) (y := bif m_cmp .ne (F_hasRange_2 s j n) 0 then ((1, (mvs s 118 i.toNatClampNeg 120 j.toNatClampNeg n.toNatClampNeg))) else (let z21 := F_find s 2; z21)) (fun x : Int32 × SG => x.2) (by (try dsimp only); exact (Fr.tr (s1 := s) (Fr.rf _ _) (Fr.wk (W2 := W_ccopy_12) (fr_find s 2) (by rfl)))) (by (try dsimp only); exact (Fr.bifp (b := m_cmp .ne (F_hasRange_2 s j n) 0) (x := (1, (mvs s 118 i.toNatClampNeg 120 j.toNatClampNeg n.toNatClampNeg))) (y := let z21 := F_find s 2; z21) (fun x : Int32 × SG => x.2) (by (try dsimp only); exact (Fr.mvs (by rfl) (Fr.rf _ _))) (by (try dsimp only); exact (Fr.tr (s1 := s) (Fr.rf _ _) (Fr.wk (W2 := W_ccopy_12) (fr_find s 2) (by rfl)))))))) (by (try dsimp only); exact (Fr.tr (s1 := s) (Fr.rf _ _) (Fr.wk (W2 := W_ccopy_12) (fr_find s 4) (by rfl)))))) (by (try dsimp only); exact (Fr.tr (s1 := s) (Fr.rf _ _) (Fr.wk (W2 := W_ccopy_12) (fr_find s 1) (by rfl)))))))) (by (try dsimp only); exact (Fr.rf _ _)))))
set_option maxRecDepth 20000 in
set_option maxHeartbeats 200000 in
theorem ux_ccopy_12 (s : SG) (i : Int32) (j : Int32) (n : Int32)  : UP m_X6_copy 0 (m_ent 8 [.ref 0, .int 1, .int i, .int 2, .int j, .int n]) [] s (Qb (F_ccopy_12 s i j n)) := by
  refine UP.stp 2 (i1 := 2) (L1 := [some (.ref 0), some (.int 1), some (.int i), some (.int 2), some (.int j), some (.int n), none, none]) (st1 := [.int 4, .int 1]) (s1 := s) rfl ?_
  refine UP.cI (M1 := m_X6_isBelow) (as := [.int 1, .int 4]) (rest := []) (T := F_isBelow s 1 4) rfl rfl (ux_isBelow s 1 4) ?_
  refine UP.spl (m_cmp .eq (F_isBelow s 1 4) 0) (((-2), s)) (bif m_cmp .ne (F_isBelow s 2 4) 0 then (bif m_cmp .ne (s 117 1) 0 then (let z9 := F_find s 1; z9) else (bif m_cmp .eq (s 119 1) 0 then (bif m_cmp .eq (s 117 2) (s 119 2) then (bif m_cmp .eq (F_hasRange_1 s i n) 0 then (let z17 := F_find s 2; z17) else (bif m_cmp .ne (F_hasRange_2 s j n) 0 then ((1, (mvs s 118 i.toNatClampNeg 120 j.toNatClampNeg n.toNatClampNeg))) else (let z21 := F_find s 2; z21))) else (let z22 := F_find s 4; z22)) else (let z23 := F_find s 1; z23))) else (((-2), s))) (by first | (dsimp only [F_ccopy_12]; done) | (dsimp only; done) | rfl) (fun cc => ?_) (fun cc => ?_)
  · skip
    refine UP.ifT rfl cc ?_
    refine UP.stp 1 (i1 := 9) (L1 := [some (.ref 0), some (.int 1), some (.int i), some (.int 2), some (.int j), some (.int n), none, none]) (st1 := [.int (-2)]) (s1 := s) rfl ?_
    exact UP.ret (r := some (.int (-2))) rfl ⟨by first | (dsimp only [F_ccopy_12]; done) | (dsimp only; done) | rfl, by first | (dsimp only [F_ccopy_12]; done) | (dsimp only; done) | rfl⟩
  · skip
    refine UP.ifF rfl cc ?_
    refine UP.stp 2 (i1 := 6) (L1 := [some (.ref 0), some (.int 1), some (.int i), some (.int 2), some (.int j), some (.int n), none, none]) (st1 := [.int 4, .int 2]) (s1 := s) rfl ?_
    refine UP.cI (M1 := m_X6_isBelow) (as := [.int 2, .int 4]) (rest := []) (T := F_isBelow s 2 4) rfl rfl (ux_isBelow s 2 4) ?_
    refine UP.spl (m_cmp .ne (F_isBelow s 2 4) 0) (bif m_cmp .ne (s 117 1) 0 then (let z9 := F_find s 1; z9) else (bif m_cmp .eq (s 119 1) 0 then (bif m_cmp .eq (s 117 2) (s 119 2) then (bif m_cmp .eq (F_hasRange_1 s i n) 0 then (let z17 := F_find s 2; z17) else (bif m_cmp .ne (F_hasRange_2 s j n) 0 then ((1, (mvs s 118 i.toNatClampNeg 120 j.toNatClampNeg n.toNatClampNeg))) else (let z21 := F_find s 2; z21))) else (let z22 := F_find s 4; z22)) else (let z23 := F_find s 1; z23))) (((-2), s)) (by first | (dsimp only [F_ccopy_12]; done) | (dsimp only; done) | rfl) (fun cc => ?_) (fun cc => ?_)
    · skip
      refine UP.ifT rfl cc ?_
      refine UP.stp 3 (i1 := 13) (L1 := [some (.ref 0), some (.int 1), some (.int i), some (.int 2), some (.int j), some (.int n), none, none]) (st1 := [.int 1, .ref 9]) (s1 := s) rfl ?_
      refine UP.aald (e := 1) (r := 117) rfl rfl (by omega) rfl ?_
      refine UP.stp 4 (i1 := 18) (L1 := [some (.ref 0), some (.int 1), some (.int i), some (.int 2), some (.int j), some (.int n), some (.ref 117), none]) (st1 := [.int 2, .ref 9]) (s1 := s) rfl ?_
      refine UP.aald (e := 2) (r := 119) rfl rfl (by omega) rfl ?_
      refine UP.stp 3 (i1 := 22) (L1 := [some (.ref 0), some (.int 1), some (.int i), some (.int 2), some (.int j), some (.int n), some (.ref 117), some (.ref 119)]) (st1 := [.int (s 117 1)]) (s1 := s) rfl ?_
      refine UP.spl (m_cmp .ne (s 117 1) 0) (let z9 := F_find s 1; z9) (bif m_cmp .eq (s 119 1) 0 then (bif m_cmp .eq (s 117 2) (s 119 2) then (bif m_cmp .eq (F_hasRange_1 s i n) 0 then (let z17 := F_find s 2; z17) else (bif m_cmp .ne (F_hasRange_2 s j n) 0 then ((1, (mvs s 118 i.toNatClampNeg 120 j.toNatClampNeg n.toNatClampNeg))) else (let z21 := F_find s 2; z21))) else (let z22 := F_find s 4; z22)) else (let z23 := F_find s 1; z23)) (by first | (dsimp only [F_ccopy_12]; done) | (dsimp only; done) | rfl) (fun cc => ?_) (fun cc => ?_)
      · skip
        refine UP.ifT rfl cc ?_
        refine UP.stp 2 (i1 := 28) (L1 := [some (.ref 0), some (.int 1), some (.int i), some (.int 2), some (.int j), some (.int n), some (.ref 117), some (.ref 119)]) (st1 := [.int 1, .ref 0]) (s1 := s) rfl ?_
        refine UP.cB (M1 := m_X6_find) (as := [.ref 0, .int 1]) (rest := []) (T := F_find s 1) rfl rfl (ux_find s 1) (fun z9 e9 => ?_)
        exact UP.ret (r := some (.int z9.1)) rfl ⟨by subst e9; first | (dsimp only [F_ccopy_12]; done) | (dsimp only; done) | rfl, by subst e9; first | (dsimp only [F_ccopy_12]; done) | (dsimp only; done) | rfl⟩
      · skip
        refine UP.ifF rfl cc ?_
        refine UP.stp 2 (i1 := 25) (L1 := [some (.ref 0), some (.int 1), some (.int i), some (.int 2), some (.int j), some (.int n), some (.ref 117), some (.ref 119)]) (st1 := [.int (s 119 1)]) (s1 := s) rfl ?_
        refine UP.spl (m_cmp .eq (s 119 1) 0) (bif m_cmp .eq (s 117 2) (s 119 2) then (bif m_cmp .eq (F_hasRange_1 s i n) 0 then (let z17 := F_find s 2; z17) else (bif m_cmp .ne (F_hasRange_2 s j n) 0 then ((1, (mvs s 118 i.toNatClampNeg 120 j.toNatClampNeg n.toNatClampNeg))) else (let z21 := F_find s 2; z21))) else (let z22 := F_find s 4; z22)) (let z23 := F_find s 1; z23) (by first | (dsimp only [F_ccopy_12]; done) | (dsimp only; done) | rfl) (fun cc => ?_) (fun cc => ?_)
        · skip
          refine UP.ifT rfl cc ?_
          refine UP.stp 4 (i1 := 34) (L1 := [some (.ref 0), some (.int 1), some (.int i), some (.int 2), some (.int j), some (.int n), some (.ref 117), some (.ref 119)]) (st1 := [.int (s 119 2), .int (s 117 2)]) (s1 := s) rfl ?_
          refine UP.spl (m_cmp .eq (s 117 2) (s 119 2)) (bif m_cmp .eq (F_hasRange_1 s i n) 0 then (let z17 := F_find s 2; z17) else (bif m_cmp .ne (F_hasRange_2 s j n) 0 then ((1, (mvs s 118 i.toNatClampNeg 120 j.toNatClampNeg n.toNatClampNeg))) else (let z21 := F_find s 2; z21))) (let z22 := F_find s 4; z22) (by first | (dsimp only [F_ccopy_12]; done) | (dsimp only; done) | rfl) (fun cc => ?_) (fun cc => ?_)
          · skip
            refine UP.icT rfl cc ?_
            refine UP.stp 3 (i1 := 42) (L1 := [some (.ref 0), some (.int 1), some (.int i), some (.int 2), some (.int j), some (.int n), some (.ref 117), some (.ref 119)]) (st1 := [.int n, .int i, .ref 117]) (s1 := s) rfl ?_
            refine UP.cI (M1 := m_X3_hasRange) (as := [.ref 117, .int i, .int n]) (rest := []) (T := F_hasRange_1 s i n) rfl rfl (ux_hasRange_1 s i n) ?_
            refine UP.spl (m_cmp .eq (F_hasRange_1 s i n) 0) (let z17 := F_find s 2; z17) (bif m_cmp .ne (F_hasRange_2 s j n) 0 then ((1, (mvs s 118 i.toNatClampNeg 120 j.toNatClampNeg n.toNatClampNeg))) else (let z21 := F_find s 2; z21)) (by first | (dsimp only [F_ccopy_12]; done) | (dsimp only; done) | rfl) (fun cc => ?_) (fun cc => ?_)
            · skip
              refine UP.ifT rfl cc ?_
              refine UP.stp 2 (i1 := 51) (L1 := [some (.ref 0), some (.int 1), some (.int i), some (.int 2), some (.int j), some (.int n), some (.ref 117), some (.ref 119)]) (st1 := [.int 2, .ref 0]) (s1 := s) rfl ?_
              refine UP.cB (M1 := m_X6_find) (as := [.ref 0, .int 2]) (rest := []) (T := F_find s 2) rfl rfl (ux_find s 2) (fun z17 e17 => ?_)
              exact UP.ret (r := some (.int z17.1)) rfl ⟨by subst e17; first | (dsimp only [F_ccopy_12]; done) | (dsimp only; done) | rfl, by subst e17; first | (dsimp only [F_ccopy_12]; done) | (dsimp only; done) | rfl⟩
            · skip
              refine UP.ifF rfl cc ?_
              refine UP.stp 3 (i1 := 47) (L1 := [some (.ref 0), some (.int 1), some (.int i), some (.int 2), some (.int j), some (.int n), some (.ref 117), some (.ref 119)]) (st1 := [.int n, .int j, .ref 119]) (s1 := s) rfl ?_
              refine UP.cI (M1 := m_X3_hasRange) (as := [.ref 119, .int j, .int n]) (rest := []) (T := F_hasRange_2 s j n) rfl rfl (ux_hasRange_2 s j n) ?_
              refine UP.spl (m_cmp .ne (F_hasRange_2 s j n) 0) ((1, (mvs s 118 i.toNatClampNeg 120 j.toNatClampNeg n.toNatClampNeg))) (let z21 := F_find s 2; z21) (by first | (dsimp only [F_ccopy_12]; done) | (dsimp only; done) | rfl) (fun cc => ?_) (fun cc => ?_)
              · skip
                refine UP.ifT rfl cc ?_
                refine UP.stp 9 (i1 := 62) (L1 := [some (.ref 0), some (.int 1), some (.int i), some (.int 2), some (.int j), some (.int n), some (.ref 117), some (.ref 119)]) (st1 := [.int 1]) (s1 := (mvs s 118 i.toNatClampNeg 120 j.toNatClampNeg n.toNatClampNeg)) rfl ?_
                exact UP.ret (r := some (.int 1)) rfl ⟨by first | (dsimp only [F_ccopy_12]; done) | (dsimp only; done) | rfl, by first | (dsimp only [F_ccopy_12]; done) | (dsimp only; done) | rfl⟩
              · skip
                refine UP.ifF rfl cc ?_
                refine UP.stp 2 (i1 := 51) (L1 := [some (.ref 0), some (.int 1), some (.int i), some (.int 2), some (.int j), some (.int n), some (.ref 117), some (.ref 119)]) (st1 := [.int 2, .ref 0]) (s1 := s) rfl ?_
                refine UP.cB (M1 := m_X6_find) (as := [.ref 0, .int 2]) (rest := []) (T := F_find s 2) rfl rfl (ux_find s 2) (fun z21 e21 => ?_)
                exact UP.ret (r := some (.int z21.1)) rfl ⟨by subst e21; first | (dsimp only [F_ccopy_12]; done) | (dsimp only; done) | rfl, by subst e21; first | (dsimp only [F_ccopy_12]; done) | (dsimp only; done) | rfl⟩
          · skip
            refine UP.icF rfl cc ?_
            refine UP.stp 2 (i1 := 37) (L1 := [some (.ref 0), some (.int 1), some (.int i), some (.int 2), some (.int j), some (.int n), some (.ref 117), some (.ref 119)]) (st1 := [.int 4, .ref 0]) (s1 := s) rfl ?_
            refine UP.cB (M1 := m_X6_find) (as := [.ref 0, .int 4]) (rest := []) (T := F_find s 4) rfl rfl (ux_find s 4) (fun z22 e22 => ?_)
            exact UP.ret (r := some (.int z22.1)) rfl ⟨by subst e22; first | (dsimp only [F_ccopy_12]; done) | (dsimp only; done) | rfl, by subst e22; first | (dsimp only [F_ccopy_12]; done) | (dsimp only; done) | rfl⟩
        · skip
          refine UP.ifF rfl cc ?_
          refine UP.stp 2 (i1 := 28) (L1 := [some (.ref 0), some (.int 1), some (.int i), some (.int 2), some (.int j), some (.int n), some (.ref 117), some (.ref 119)]) (st1 := [.int 1, .ref 0]) (s1 := s) rfl ?_
          refine UP.cB (M1 := m_X6_find) (as := [.ref 0, .int 1]) (rest := []) (T := F_find s 1) rfl rfl (ux_find s 1) (fun z23 e23 => ?_)
          exact UP.ret (r := some (.int z23.1)) rfl ⟨by subst e23; first | (dsimp only [F_ccopy_12]; done) | (dsimp only; done) | rfl, by subst e23; first | (dsimp only [F_ccopy_12]; done) | (dsimp only; done) | rfl⟩
    · skip
      refine UP.ifF rfl cc ?_
      refine UP.stp 1 (i1 := 9) (L1 := [some (.ref 0), some (.int 1), some (.int i), some (.int 2), some (.int j), some (.int n), none, none]) (st1 := [.int (-2)]) (s1 := s) rfl ?_
      exact UP.ret (r := some (.int (-2))) rfl ⟨by first | (dsimp only [F_ccopy_12]; done) | (dsimp only; done) | rfl, by first | (dsimp only [F_ccopy_12]; done) | (dsimp only; done) | rfl⟩
end
section
def W_ccopy_13 : List (Nat × Nat × Option Nat) := [(122, 122, none), (0, 0, some 4)]
def F_ccopy_13 (s : SG) (i : Int32) (j : Int32) (n : Int32) : Int32 × SG := bif m_cmp .eq (F_isBelow s 1 4) 0 then (((-2), s)) else (bif m_cmp .ne (F_isBelow s 3 4) 0 then (bif m_cmp .ne (s 117 1) 0 then (let z9 := F_find s 1; z9) else (bif m_cmp .eq (s 121 1) 0 then (bif m_cmp .eq (s 117 2) (s 121 2) then (bif m_cmp .eq (F_hasRange_1 s i n) 0 then (let z17 := F_find s 2; z17) else (bif m_cmp .ne (F_hasRange_3 s j n) 0 then ((1, (mvs s 118 i.toNatClampNeg 122 j.toNatClampNeg n.toNatClampNeg))) else (let z21 := F_find s 2; z21))) else (let z22 := F_find s 4; z22)) else (let z23 := F_find s 1; z23))) else (((-2), s)))
set_option maxRecDepth 20000 in
set_option maxHeartbeats 200000 in
theorem fr_ccopy_13 (s : SG) (i : Int32) (j : Int32) (n : Int32)  : Fr W_ccopy_13 s (F_ccopy_13 s i j n).2 := by dsimp only [F_ccopy_13]; exact (Fr.bifp (b := m_cmp .eq (F_isBelow s 1 4) 0) (x := ((-2), s)) (y := bif m_cmp .ne (F_isBelow s 3 4) 0 then (bif m_cmp .ne (s 117 1) 0 then (let z9 := F_find s 1; z9) else (bif m_cmp .eq (s 121 1) 0 then (bif m_cmp .eq (s 117 2) (s 121 2) then (bif m_cmp .eq (F_hasRange_1 s i n) 0 then (let z17 := F_find s 2; z17) else (bif m_cmp .ne (F_hasRange_3 s j n) 0 then ((1, (mvs s 118 i.toNatClampNeg 122 j.toNatClampNeg n.toNatClampNeg))) else (let z21 := F_find s 2; z21))) else (let z22 := F_find s 4; z22)) else (let z23 := F_find s 1; z23))) else (((-2), s))) (fun x : Int32 × SG => x.2) (by (try dsimp only); exact (Fr.rf _ _)) (by (try dsimp only); exact (Fr.bifp (b := m_cmp .ne (F_isBelow s 3 4) 0) (x := bif m_cmp .ne (s 117 1) 0 then (let z9 := F_find s 1; z9) else (bif m_cmp .eq (s 121 1) 0 then (bif m_cmp .eq (s 117 2) (s 121 2) then (bif m_cmp .eq (F_hasRange_1 s i n) 0 then (let z17 := F_find s 2; z17) else (bif m_cmp .ne (F_hasRange_3 s j n) 0 then ((1, (mvs s 118 i.toNatClampNeg 122 j.toNatClampNeg n.toNatClampNeg))) else (let z21 := F_find s 2; z21))) else (let z22 := F_find s 4; z22)) else (let z23 := F_find s 1; z23))) (y := ((-2), s)) (fun x : Int32 × SG => x.2) (by (try dsimp only); exact (Fr.bifp (b := m_cmp .ne (s 117 1) 0) (x := let z9 := F_find s 1; z9) (y := bif m_cmp .eq (s 121 1) 0 then (bif m_cmp .eq (s 117 2) (s 121 2) then (bif m_cmp .eq (F_hasRange_1 s i n) 0 then (let z17 := F_find s 2; z17) else (bif m_cmp .ne (F_hasRange_3 s j n) 0 then ((1, (mvs s 118 i.toNatClampNeg 122 j.toNatClampNeg n.toNatClampNeg))) else (let z21 := F_find s 2; z21))) else (let z22 := F_find s 4; z22)) else (let z23 := F_find s 1; z23)) (fun x : Int32 × SG => x.2) (by (try dsimp only); exact (Fr.tr (s1 := s) (Fr.rf _ _) (Fr.wk (W2 := W_ccopy_13) (fr_find s 1) (by rfl)))) (by (try dsimp only); exact (Fr.bifp (b := m_cmp .eq (s 121 1) 0) (x := bif m_cmp .eq (s 117 2) (s 121 2) then (bif m_cmp .eq (F_hasRange_1 s i n) 0 then (let z17 := F_find s 2; z17) else (bif m_cmp .ne (F_hasRange_3 s j n) 0 then ((1, (mvs s 118 i.toNatClampNeg 122 j.toNatClampNeg n.toNatClampNeg))) else (let z21 := F_find s 2; z21))) else (let z22 := F_find s 4; z22)) (y := let z23 := F_find s 1; z23) (fun x : Int32 × SG => x.2) (by (try dsimp only); exact (Fr.bifp (b := m_cmp .eq (s 117 2) (s 121 2)) (x := bif m_cmp .eq (F_hasRange_1 s i n) 0 then (let z17 := F_find s 2; z17) else (bif m_cmp .ne (F_hasRange_3 s j n) 0 then ((1, (mvs s 118 i.toNatClampNeg 122 j.toNatClampNeg n.toNatClampNeg))) else (let z21 := F_find s 2; z21))) (y := let z22 := F_find s 4; z22) (fun x : Int32 × SG => x.2) (by (try dsimp only); exact (Fr.bifp (b := m_cmp .eq (F_hasRange_1 s i n) 0) (x := let z17 := F_find s 2; z17) (y := bif m_cmp .ne (F_hasRange_3 s j n) 0 then ((1, (mvs s 118 i.toNatClampNeg 122 j.toNatClampNeg n.toNatClampNeg))) else (let z21 := F_find s 2; z21)) (fun x : Int32 × SG => x.2) (by (try dsimp only); exact (Fr.tr (s1 := s) (Fr.rf _ _) (Fr.wk (W2 := W_ccopy_13) (fr_find s 2) (by rfl)))) (by (try dsimp only); exact (Fr.bifp (b := m_cmp .ne (F_hasRange_3 s j n) 0) (x := (1, (mvs s 118 i.toNatClampNeg 122 j.toNatClampNeg n.toNatClampNeg))) (y := let z21 := F_find s 2; z21) (fun x : Int32 × SG => x.2) (by (try dsimp only); exact (Fr.mvs (by rfl) (Fr.rf _ _))) (by (try dsimp only); exact (Fr.tr (s1 := s) (Fr.rf _ _) (Fr.wk (W2 := W_ccopy_13) (fr_find s 2) (by rfl)))))))) (by (try dsimp only); exact (Fr.tr (s1 := s) (Fr.rf _ _) (Fr.wk (W2 := W_ccopy_13) (fr_find s 4) (by rfl)))))) (by (try dsimp only); exact (Fr.tr (s1 := s) (Fr.rf _ _) (Fr.wk (W2 := W_ccopy_13) (fr_find s 1) (by rfl)))))))) (by (try dsimp only); exact (Fr.rf _ _)))))
set_option maxRecDepth 20000 in
set_option maxHeartbeats 200000 in
theorem ux_ccopy_13 (s : SG) (i : Int32) (j : Int32) (n : Int32)  : UP m_X6_copy 0 (m_ent 8 [.ref 0, .int 1, .int i, .int 3, .int j, .int n]) [] s (Qb (F_ccopy_13 s i j n)) := by
  refine UP.stp 2 (i1 := 2) (L1 := [some (.ref 0), some (.int 1), some (.int i), some (.int 3), some (.int j), some (.int n), none, none]) (st1 := [.int 4, .int 1]) (s1 := s) rfl ?_
  refine UP.cI (M1 := m_X6_isBelow) (as := [.int 1, .int 4]) (rest := []) (T := F_isBelow s 1 4) rfl rfl (ux_isBelow s 1 4) ?_
  refine UP.spl (m_cmp .eq (F_isBelow s 1 4) 0) (((-2), s)) (bif m_cmp .ne (F_isBelow s 3 4) 0 then (bif m_cmp .ne (s 117 1) 0 then (let z9 := F_find s 1; z9) else (bif m_cmp .eq (s 121 1) 0 then (bif m_cmp .eq (s 117 2) (s 121 2) then (bif m_cmp .eq (F_hasRange_1 s i n) 0 then (let z17 := F_find s 2; z17) else (bif m_cmp .ne (F_hasRange_3 s j n) 0 then ((1, (mvs s 118 i.toNatClampNeg 122 j.toNatClampNeg n.toNatClampNeg))) else (let z21 := F_find s 2; z21))) else (let z22 := F_find s 4; z22)) else (let z23 := F_find s 1; z23))) else (((-2), s))) (by first | (dsimp only [F_ccopy_13]; done) | (dsimp only; done) | rfl) (fun cc => ?_) (fun cc => ?_)
  · skip
    refine UP.ifT rfl cc ?_
    refine UP.stp 1 (i1 := 9) (L1 := [some (.ref 0), some (.int 1), some (.int i), some (.int 3), some (.int j), some (.int n), none, none]) (st1 := [.int (-2)]) (s1 := s) rfl ?_
    exact UP.ret (r := some (.int (-2))) rfl ⟨by first | (dsimp only [F_ccopy_13]; done) | (dsimp only; done) | rfl, by first | (dsimp only [F_ccopy_13]; done) | (dsimp only; done) | rfl⟩
  · skip
    refine UP.ifF rfl cc ?_
    refine UP.stp 2 (i1 := 6) (L1 := [some (.ref 0), some (.int 1), some (.int i), some (.int 3), some (.int j), some (.int n), none, none]) (st1 := [.int 4, .int 3]) (s1 := s) rfl ?_
    refine UP.cI (M1 := m_X6_isBelow) (as := [.int 3, .int 4]) (rest := []) (T := F_isBelow s 3 4) rfl rfl (ux_isBelow s 3 4) ?_
    refine UP.spl (m_cmp .ne (F_isBelow s 3 4) 0) (bif m_cmp .ne (s 117 1) 0 then (let z9 := F_find s 1; z9) else (bif m_cmp .eq (s 121 1) 0 then (bif m_cmp .eq (s 117 2) (s 121 2) then (bif m_cmp .eq (F_hasRange_1 s i n) 0 then (let z17 := F_find s 2; z17) else (bif m_cmp .ne (F_hasRange_3 s j n) 0 then ((1, (mvs s 118 i.toNatClampNeg 122 j.toNatClampNeg n.toNatClampNeg))) else (let z21 := F_find s 2; z21))) else (let z22 := F_find s 4; z22)) else (let z23 := F_find s 1; z23))) (((-2), s)) (by first | (dsimp only [F_ccopy_13]; done) | (dsimp only; done) | rfl) (fun cc => ?_) (fun cc => ?_)
    · skip
      refine UP.ifT rfl cc ?_
      refine UP.stp 3 (i1 := 13) (L1 := [some (.ref 0), some (.int 1), some (.int i), some (.int 3), some (.int j), some (.int n), none, none]) (st1 := [.int 1, .ref 9]) (s1 := s) rfl ?_
      refine UP.aald (e := 1) (r := 117) rfl rfl (by omega) rfl ?_
      refine UP.stp 4 (i1 := 18) (L1 := [some (.ref 0), some (.int 1), some (.int i), some (.int 3), some (.int j), some (.int n), some (.ref 117), none]) (st1 := [.int 3, .ref 9]) (s1 := s) rfl ?_
      refine UP.aald (e := 3) (r := 121) rfl rfl (by omega) rfl ?_
      refine UP.stp 3 (i1 := 22) (L1 := [some (.ref 0), some (.int 1), some (.int i), some (.int 3), some (.int j), some (.int n), some (.ref 117), some (.ref 121)]) (st1 := [.int (s 117 1)]) (s1 := s) rfl ?_
      refine UP.spl (m_cmp .ne (s 117 1) 0) (let z9 := F_find s 1; z9) (bif m_cmp .eq (s 121 1) 0 then (bif m_cmp .eq (s 117 2) (s 121 2) then (bif m_cmp .eq (F_hasRange_1 s i n) 0 then (let z17 := F_find s 2; z17) else (bif m_cmp .ne (F_hasRange_3 s j n) 0 then ((1, (mvs s 118 i.toNatClampNeg 122 j.toNatClampNeg n.toNatClampNeg))) else (let z21 := F_find s 2; z21))) else (let z22 := F_find s 4; z22)) else (let z23 := F_find s 1; z23)) (by first | (dsimp only [F_ccopy_13]; done) | (dsimp only; done) | rfl) (fun cc => ?_) (fun cc => ?_)
      · skip
        refine UP.ifT rfl cc ?_
        refine UP.stp 2 (i1 := 28) (L1 := [some (.ref 0), some (.int 1), some (.int i), some (.int 3), some (.int j), some (.int n), some (.ref 117), some (.ref 121)]) (st1 := [.int 1, .ref 0]) (s1 := s) rfl ?_
        refine UP.cB (M1 := m_X6_find) (as := [.ref 0, .int 1]) (rest := []) (T := F_find s 1) rfl rfl (ux_find s 1) (fun z9 e9 => ?_)
        exact UP.ret (r := some (.int z9.1)) rfl ⟨by subst e9; first | (dsimp only [F_ccopy_13]; done) | (dsimp only; done) | rfl, by subst e9; first | (dsimp only [F_ccopy_13]; done) | (dsimp only; done) | rfl⟩
      · skip
        refine UP.ifF rfl cc ?_
        refine UP.stp 2 (i1 := 25) (L1 := [some (.ref 0), some (.int 1), some (.int i), some (.int 3), some (.int j), some (.int n), some (.ref 117), some (.ref 121)]) (st1 := [.int (s 121 1)]) (s1 := s) rfl ?_
        refine UP.spl (m_cmp .eq (s 121 1) 0) (bif m_cmp .eq (s 117 2) (s 121 2) then (bif m_cmp .eq (F_hasRange_1 s i n) 0 then (let z17 := F_find s 2; z17) else (bif m_cmp .ne (F_hasRange_3 s j n) 0 then ((1, (mvs s 118 i.toNatClampNeg 122 j.toNatClampNeg n.toNatClampNeg))) else (let z21 := F_find s 2; z21))) else (let z22 := F_find s 4; z22)) (let z23 := F_find s 1; z23) (by first | (dsimp only [F_ccopy_13]; done) | (dsimp only; done) | rfl) (fun cc => ?_) (fun cc => ?_)
        · skip
          refine UP.ifT rfl cc ?_
          refine UP.stp 4 (i1 := 34) (L1 := [some (.ref 0), some (.int 1), some (.int i), some (.int 3), some (.int j), some (.int n), some (.ref 117), some (.ref 121)]) (st1 := [.int (s 121 2), .int (s 117 2)]) (s1 := s) rfl ?_
          refine UP.spl (m_cmp .eq (s 117 2) (s 121 2)) (bif m_cmp .eq (F_hasRange_1 s i n) 0 then (let z17 := F_find s 2; z17) else (bif m_cmp .ne (F_hasRange_3 s j n) 0 then ((1, (mvs s 118 i.toNatClampNeg 122 j.toNatClampNeg n.toNatClampNeg))) else (let z21 := F_find s 2; z21))) (let z22 := F_find s 4; z22) (by first | (dsimp only [F_ccopy_13]; done) | (dsimp only; done) | rfl) (fun cc => ?_) (fun cc => ?_)
          · skip
            refine UP.icT rfl cc ?_
            refine UP.stp 3 (i1 := 42) (L1 := [some (.ref 0), some (.int 1), some (.int i), some (.int 3), some (.int j), some (.int n), some (.ref 117), some (.ref 121)]) (st1 := [.int n, .int i, .ref 117]) (s1 := s) rfl ?_
            refine UP.cI (M1 := m_X3_hasRange) (as := [.ref 117, .int i, .int n]) (rest := []) (T := F_hasRange_1 s i n) rfl rfl (ux_hasRange_1 s i n) ?_
            refine UP.spl (m_cmp .eq (F_hasRange_1 s i n) 0) (let z17 := F_find s 2; z17) (bif m_cmp .ne (F_hasRange_3 s j n) 0 then ((1, (mvs s 118 i.toNatClampNeg 122 j.toNatClampNeg n.toNatClampNeg))) else (let z21 := F_find s 2; z21)) (by first | (dsimp only [F_ccopy_13]; done) | (dsimp only; done) | rfl) (fun cc => ?_) (fun cc => ?_)
            · skip
              refine UP.ifT rfl cc ?_
              refine UP.stp 2 (i1 := 51) (L1 := [some (.ref 0), some (.int 1), some (.int i), some (.int 3), some (.int j), some (.int n), some (.ref 117), some (.ref 121)]) (st1 := [.int 2, .ref 0]) (s1 := s) rfl ?_
              refine UP.cB (M1 := m_X6_find) (as := [.ref 0, .int 2]) (rest := []) (T := F_find s 2) rfl rfl (ux_find s 2) (fun z17 e17 => ?_)
              exact UP.ret (r := some (.int z17.1)) rfl ⟨by subst e17; first | (dsimp only [F_ccopy_13]; done) | (dsimp only; done) | rfl, by subst e17; first | (dsimp only [F_ccopy_13]; done) | (dsimp only; done) | rfl⟩
            · skip
              refine UP.ifF rfl cc ?_
              refine UP.stp 3 (i1 := 47) (L1 := [some (.ref 0), some (.int 1), some (.int i), some (.int 3), some (.int j), some (.int n), some (.ref 117), some (.ref 121)]) (st1 := [.int n, .int j, .ref 121]) (s1 := s) rfl ?_
              refine UP.cI (M1 := m_X3_hasRange) (as := [.ref 121, .int j, .int n]) (rest := []) (T := F_hasRange_3 s j n) rfl rfl (ux_hasRange_3 s j n) ?_
              refine UP.spl (m_cmp .ne (F_hasRange_3 s j n) 0) ((1, (mvs s 118 i.toNatClampNeg 122 j.toNatClampNeg n.toNatClampNeg))) (let z21 := F_find s 2; z21) (by first | (dsimp only [F_ccopy_13]; done) | (dsimp only; done) | rfl) (fun cc => ?_) (fun cc => ?_)
              · skip
                refine UP.ifT rfl cc ?_
                refine UP.stp 9 (i1 := 62) (L1 := [some (.ref 0), some (.int 1), some (.int i), some (.int 3), some (.int j), some (.int n), some (.ref 117), some (.ref 121)]) (st1 := [.int 1]) (s1 := (mvs s 118 i.toNatClampNeg 122 j.toNatClampNeg n.toNatClampNeg)) rfl ?_
                exact UP.ret (r := some (.int 1)) rfl ⟨by first | (dsimp only [F_ccopy_13]; done) | (dsimp only; done) | rfl, by first | (dsimp only [F_ccopy_13]; done) | (dsimp only; done) | rfl⟩
              · skip
                refine UP.ifF rfl cc ?_
                refine UP.stp 2 (i1 := 51) (L1 := [some (.ref 0), some (.int 1), some (.int i), some (.int 3), some (.int j), some (.int n), some (.ref 117), some (.ref 121)]) (st1 := [.int 2, .ref 0]) (s1 := s) rfl ?_
                refine UP.cB (M1 := m_X6_find) (as := [.ref 0, .int 2]) (rest := []) (T := F_find s 2) rfl rfl (ux_find s 2) (fun z21 e21 => ?_)
                exact UP.ret (r := some (.int z21.1)) rfl ⟨by subst e21; first | (dsimp only [F_ccopy_13]; done) | (dsimp only; done) | rfl, by subst e21; first | (dsimp only [F_ccopy_13]; done) | (dsimp only; done) | rfl⟩
          · skip
            refine UP.icF rfl cc ?_
            refine UP.stp 2 (i1 := 37) (L1 := [some (.ref 0), some (.int 1), some (.int i), some (.int 3), some (.int j), some (.int n), some (.ref 117), some (.ref 121)]) (st1 := [.int 4, .ref 0]) (s1 := s) rfl ?_
            refine UP.cB (M1 := m_X6_find) (as := [.ref 0, .int 4]) (rest := []) (T := F_find s 4) rfl rfl (ux_find s 4) (fun z22 e22 => ?_)
            exact UP.ret (r := some (.int z22.1)) rfl ⟨by subst e22; first | (dsimp only [F_ccopy_13]; done) | (dsimp only; done) | rfl, by subst e22; first | (dsimp only [F_ccopy_13]; done) | (dsimp only; done) | rfl⟩
        · skip
          refine UP.ifF rfl cc ?_
          refine UP.stp 2 (i1 := 28) (L1 := [some (.ref 0), some (.int 1), some (.int i), some (.int 3), some (.int j), some (.int n), some (.ref 117), some (.ref 121)]) (st1 := [.int 1, .ref 0]) (s1 := s) rfl ?_
          refine UP.cB (M1 := m_X6_find) (as := [.ref 0, .int 1]) (rest := []) (T := F_find s 1) rfl rfl (ux_find s 1) (fun z23 e23 => ?_)
          exact UP.ret (r := some (.int z23.1)) rfl ⟨by subst e23; first | (dsimp only [F_ccopy_13]; done) | (dsimp only; done) | rfl, by subst e23; first | (dsimp only [F_ccopy_13]; done) | (dsimp only; done) | rfl⟩
    · skip
      refine UP.ifF rfl cc ?_
      refine UP.stp 1 (i1 := 9) (L1 := [some (.ref 0), some (.int 1), some (.int i), some (.int 3), some (.int j), some (.int n), none, none]) (st1 := [.int (-2)]) (s1 := s) rfl ?_
      exact UP.ret (r := some (.int (-2))) rfl ⟨by first | (dsimp only [F_ccopy_13]; done) | (dsimp only; done) | rfl, by first | (dsimp only [F_ccopy_13]; done) | (dsimp only; done) | rfl⟩
end
section
def W_ccopy_20 : List (Nat × Nat × Option Nat) := [(116, 116, none), (0, 0, some 4)]
def F_ccopy_20 (s : SG) (i : Int32) (j : Int32) (n : Int32) : Int32 × SG := bif m_cmp .eq (F_isBelow s 2 4) 0 then (((-2), s)) else (bif m_cmp .ne (F_isBelow s 0 4) 0 then (bif m_cmp .ne (s 119 1) 0 then (let z9 := F_find s 1; z9) else (bif m_cmp .eq (s 115 1) 0 then (bif m_cmp .eq (s 119 2) (s 115 2) then (bif m_cmp .eq (F_hasRange_2 s i n) 0 then (let z17 := F_find s 2; z17) else (bif m_cmp .ne (F_hasRange_0 s j n) 0 then ((1, (mvs s 120 i.toNatClampNeg 116 j.toNatClampNeg n.toNatClampNeg))) else (let z21 := F_find s 2; z21))) else (let z22 := F_find s 4; z22)) else (let z23 := F_find s 1; z23))) else (((-2), s)))
set_option maxRecDepth 20000 in
set_option maxHeartbeats 200000 in
theorem fr_ccopy_20 (s : SG) (i : Int32) (j : Int32) (n : Int32)  : Fr W_ccopy_20 s (F_ccopy_20 s i j n).2 := by dsimp only [F_ccopy_20]; exact (Fr.bifp (b := m_cmp .eq (F_isBelow s 2 4) 0) (x := ((-2), s)) (y := bif m_cmp .ne (F_isBelow s 0 4) 0 then (bif m_cmp .ne (s 119 1) 0 then (let z9 := F_find s 1; z9) else (bif m_cmp .eq (s 115 1) 0 then (bif m_cmp .eq (s 119 2) (s 115 2) then (bif m_cmp .eq (F_hasRange_2 s i n) 0 then (let z17 := F_find s 2; z17) else (bif m_cmp .ne (F_hasRange_0 s j n) 0 then ((1, (mvs s 120 i.toNatClampNeg 116 j.toNatClampNeg n.toNatClampNeg))) else (let z21 := F_find s 2; z21))) else (let z22 := F_find s 4; z22)) else (let z23 := F_find s 1; z23))) else (((-2), s))) (fun x : Int32 × SG => x.2) (by (try dsimp only); exact (Fr.rf _ _)) (by (try dsimp only); exact (Fr.bifp (b := m_cmp .ne (F_isBelow s 0 4) 0) (x := bif m_cmp .ne (s 119 1) 0 then (let z9 := F_find s 1; z9) else (bif m_cmp .eq (s 115 1) 0 then (bif m_cmp .eq (s 119 2) (s 115 2) then (bif m_cmp .eq (F_hasRange_2 s i n) 0 then (let z17 := F_find s 2; z17) else (bif m_cmp .ne (F_hasRange_0 s j n) 0 then ((1, (mvs s 120 i.toNatClampNeg 116 j.toNatClampNeg n.toNatClampNeg))) else (let z21 := F_find s 2; z21))) else (let z22 := F_find s 4; z22)) else (let z23 := F_find s 1; z23))) (y := ((-2), s)) (fun x : Int32 × SG => x.2) (by (try dsimp only); exact (Fr.bifp (b := m_cmp .ne (s 119 1) 0) (x := let z9 := F_find s 1; z9) (y := bif m_cmp .eq (s 115 1) 0 then (bif m_cmp .eq (s 119 2) (s 115 2) then (bif m_cmp .eq (F_hasRange_2 s i n) 0 then (let z17 := F_find s 2; z17) else (bif m_cmp .ne (F_hasRange_0 s j n) 0 then ((1, (mvs s 120 i.toNatClampNeg 116 j.toNatClampNeg n.toNatClampNeg))) else (let z21 := F_find s 2; z21))) else (let z22 := F_find s 4; z22)) else (let z23 := F_find s 1; z23)) (fun x : Int32 × SG => x.2) (by (try dsimp only); exact (Fr.tr (s1 := s) (Fr.rf _ _) (Fr.wk (W2 := W_ccopy_20) (fr_find s 1) (by rfl)))) (by (try dsimp only); exact (Fr.bifp (b := m_cmp .eq (s 115 1) 0) (x := bif m_cmp .eq (s 119 2) (s 115 2) then (bif m_cmp .eq (F_hasRange_2 s i n) 0 then (let z17 := F_find s 2; z17) else (bif m_cmp .ne (F_hasRange_0 s j n) 0 then ((1, (mvs s 120 i.toNatClampNeg 116 j.toNatClampNeg n.toNatClampNeg))) else (let z21 := F_find s 2; z21))) else (let z22 := F_find s 4; z22)) (y := let z23 := F_find s 1; z23) (fun x : Int32 × SG => x.2) (by (try dsimp only); exact (Fr.bifp (b := m_cmp .eq (s 119 2) (s 115 2)) (x := bif m_cmp .eq (F_hasRange_2 s i n) 0 then (let z17 := F_find s 2; z17) else (bif m_cmp .ne (F_hasRange_0 s j n) 0 then ((1, (mvs s 120 i.toNatClampNeg 116 j.toNatClampNeg n.toNatClampNeg))) else (let z21 := F_find s 2; z21))) (y := let z22 := F_find s 4; z22) (fun x : Int32 × SG => x.2) (by (try dsimp only); exact (Fr.bifp (b := m_cmp .eq (F_hasRange_2 s i n) 0) (x := let z17 := F_find s 2; z17) (y := bif m_cmp .ne (F_hasRange_0 s j n) 0 then ((1, (mvs s 120 i.toNatClampNeg 116 j.toNatClampNeg n.toNatClampNeg))) else (let z21 := F_find s 2; z21)) (fun x : Int32 × SG => x.2) (by (try dsimp only); exact (Fr.tr (s1 := s) (Fr.rf _ _) (Fr.wk (W2 := W_ccopy_20) (fr_find s 2) (by rfl)))) (by (try dsimp only); exact (Fr.bifp (b := m_cmp .ne (F_hasRange_0 s j n) 0) (x := (1, (mvs s 120 i.toNatClampNeg 116 j.toNatClampNeg n.toNatClampNeg))) (y := let z21 := F_find s 2; z21) (fun x : Int32 × SG => x.2) (by (try dsimp only); exact (Fr.mvs (by rfl) (Fr.rf _ _))) (by (try dsimp only); exact (Fr.tr (s1 := s) (Fr.rf _ _) (Fr.wk (W2 := W_ccopy_20) (fr_find s 2) (by rfl)))))))) (by (try dsimp only); exact (Fr.tr (s1 := s) (Fr.rf _ _) (Fr.wk (W2 := W_ccopy_20) (fr_find s 4) (by rfl)))))) (by (try dsimp only); exact (Fr.tr (s1 := s) (Fr.rf _ _) (Fr.wk (W2 := W_ccopy_20) (fr_find s 1) (by rfl)))))))) (by (try dsimp only); exact (Fr.rf _ _)))))
set_option maxRecDepth 20000 in
set_option maxHeartbeats 200000 in
theorem ux_ccopy_20 (s : SG) (i : Int32) (j : Int32) (n : Int32)  : UP m_X6_copy 0 (m_ent 8 [.ref 0, .int 2, .int i, .int 0, .int j, .int n]) [] s (Qb (F_ccopy_20 s i j n)) := by
  refine UP.stp 2 (i1 := 2) (L1 := [some (.ref 0), some (.int 2), some (.int i), some (.int 0), some (.int j), some (.int n), none, none]) (st1 := [.int 4, .int 2]) (s1 := s) rfl ?_
  refine UP.cI (M1 := m_X6_isBelow) (as := [.int 2, .int 4]) (rest := []) (T := F_isBelow s 2 4) rfl rfl (ux_isBelow s 2 4) ?_
  refine UP.spl (m_cmp .eq (F_isBelow s 2 4) 0) (((-2), s)) (bif m_cmp .ne (F_isBelow s 0 4) 0 then (bif m_cmp .ne (s 119 1) 0 then (let z9 := F_find s 1; z9) else (bif m_cmp .eq (s 115 1) 0 then (bif m_cmp .eq (s 119 2) (s 115 2) then (bif m_cmp .eq (F_hasRange_2 s i n) 0 then (let z17 := F_find s 2; z17) else (bif m_cmp .ne (F_hasRange_0 s j n) 0 then ((1, (mvs s 120 i.toNatClampNeg 116 j.toNatClampNeg n.toNatClampNeg))) else (let z21 := F_find s 2; z21))) else (let z22 := F_find s 4; z22)) else (let z23 := F_find s 1; z23))) else (((-2), s))) (by first | (dsimp only [F_ccopy_20]; done) | (dsimp only; done) | rfl) (fun cc => ?_) (fun cc => ?_)
  · skip
    refine UP.ifT rfl cc ?_
    refine UP.stp 1 (i1 := 9) (L1 := [some (.ref 0), some (.int 2), some (.int i), some (.int 0), some (.int j), some (.int n), none, none]) (st1 := [.int (-2)]) (s1 := s) rfl ?_
    exact UP.ret (r := some (.int (-2))) rfl ⟨by first | (dsimp only [F_ccopy_20]; done) | (dsimp only; done) | rfl, by first | (dsimp only [F_ccopy_20]; done) | (dsimp only; done) | rfl⟩
  · skip
    refine UP.ifF rfl cc ?_
    refine UP.stp 2 (i1 := 6) (L1 := [some (.ref 0), some (.int 2), some (.int i), some (.int 0), some (.int j), some (.int n), none, none]) (st1 := [.int 4, .int 0]) (s1 := s) rfl ?_
    refine UP.cI (M1 := m_X6_isBelow) (as := [.int 0, .int 4]) (rest := []) (T := F_isBelow s 0 4) rfl rfl (ux_isBelow s 0 4) ?_
    refine UP.spl (m_cmp .ne (F_isBelow s 0 4) 0) (bif m_cmp .ne (s 119 1) 0 then (let z9 := F_find s 1; z9) else (bif m_cmp .eq (s 115 1) 0 then (bif m_cmp .eq (s 119 2) (s 115 2) then (bif m_cmp .eq (F_hasRange_2 s i n) 0 then (let z17 := F_find s 2; z17) else (bif m_cmp .ne (F_hasRange_0 s j n) 0 then ((1, (mvs s 120 i.toNatClampNeg 116 j.toNatClampNeg n.toNatClampNeg))) else (let z21 := F_find s 2; z21))) else (let z22 := F_find s 4; z22)) else (let z23 := F_find s 1; z23))) (((-2), s)) (by first | (dsimp only [F_ccopy_20]; done) | (dsimp only; done) | rfl) (fun cc => ?_) (fun cc => ?_)
    · skip
      refine UP.ifT rfl cc ?_
      refine UP.stp 3 (i1 := 13) (L1 := [some (.ref 0), some (.int 2), some (.int i), some (.int 0), some (.int j), some (.int n), none, none]) (st1 := [.int 2, .ref 9]) (s1 := s) rfl ?_
      refine UP.aald (e := 2) (r := 119) rfl rfl (by omega) rfl ?_
      refine UP.stp 4 (i1 := 18) (L1 := [some (.ref 0), some (.int 2), some (.int i), some (.int 0), some (.int j), some (.int n), some (.ref 119), none]) (st1 := [.int 0, .ref 9]) (s1 := s) rfl ?_
      refine UP.aald (e := 0) (r := 115) rfl rfl (by omega) rfl ?_
      refine UP.stp 3 (i1 := 22) (L1 := [some (.ref 0), some (.int 2), some (.int i), some (.int 0), some (.int j), some (.int n), some (.ref 119), some (.ref 115)]) (st1 := [.int (s 119 1)]) (s1 := s) rfl ?_
      refine UP.spl (m_cmp .ne (s 119 1) 0) (let z9 := F_find s 1; z9) (bif m_cmp .eq (s 115 1) 0 then (bif m_cmp .eq (s 119 2) (s 115 2) then (bif m_cmp .eq (F_hasRange_2 s i n) 0 then (let z17 := F_find s 2; z17) else (bif m_cmp .ne (F_hasRange_0 s j n) 0 then ((1, (mvs s 120 i.toNatClampNeg 116 j.toNatClampNeg n.toNatClampNeg))) else (let z21 := F_find s 2; z21))) else (let z22 := F_find s 4; z22)) else (let z23 := F_find s 1; z23)) (by first | (dsimp only [F_ccopy_20]; done) | (dsimp only; done) | rfl) (fun cc => ?_) (fun cc => ?_)
      · skip
        refine UP.ifT rfl cc ?_
        refine UP.stp 2 (i1 := 28) (L1 := [some (.ref 0), some (.int 2), some (.int i), some (.int 0), some (.int j), some (.int n), some (.ref 119), some (.ref 115)]) (st1 := [.int 1, .ref 0]) (s1 := s) rfl ?_
        refine UP.cB (M1 := m_X6_find) (as := [.ref 0, .int 1]) (rest := []) (T := F_find s 1) rfl rfl (ux_find s 1) (fun z9 e9 => ?_)
        exact UP.ret (r := some (.int z9.1)) rfl ⟨by subst e9; first | (dsimp only [F_ccopy_20]; done) | (dsimp only; done) | rfl, by subst e9; first | (dsimp only [F_ccopy_20]; done) | (dsimp only; done) | rfl⟩
      · skip
        refine UP.ifF rfl cc ?_
        refine UP.stp 2 (i1 := 25) (L1 := [some (.ref 0), some (.int 2), some (.int i), some (.int 0), some (.int j), some (.int n), some (.ref 119), some (.ref 115)]) (st1 := [.int (s 115 1)]) (s1 := s) rfl ?_
        refine UP.spl (m_cmp .eq (s 115 1) 0) (bif m_cmp .eq (s 119 2) (s 115 2) then (bif m_cmp .eq (F_hasRange_2 s i n) 0 then (let z17 := F_find s 2; z17) else (bif m_cmp .ne (F_hasRange_0 s j n) 0 then ((1, (mvs s 120 i.toNatClampNeg 116 j.toNatClampNeg n.toNatClampNeg))) else (let z21 := F_find s 2; z21))) else (let z22 := F_find s 4; z22)) (let z23 := F_find s 1; z23) (by first | (dsimp only [F_ccopy_20]; done) | (dsimp only; done) | rfl) (fun cc => ?_) (fun cc => ?_)
        · skip
          refine UP.ifT rfl cc ?_
          refine UP.stp 4 (i1 := 34) (L1 := [some (.ref 0), some (.int 2), some (.int i), some (.int 0), some (.int j), some (.int n), some (.ref 119), some (.ref 115)]) (st1 := [.int (s 115 2), .int (s 119 2)]) (s1 := s) rfl ?_
          refine UP.spl (m_cmp .eq (s 119 2) (s 115 2)) (bif m_cmp .eq (F_hasRange_2 s i n) 0 then (let z17 := F_find s 2; z17) else (bif m_cmp .ne (F_hasRange_0 s j n) 0 then ((1, (mvs s 120 i.toNatClampNeg 116 j.toNatClampNeg n.toNatClampNeg))) else (let z21 := F_find s 2; z21))) (let z22 := F_find s 4; z22) (by first | (dsimp only [F_ccopy_20]; done) | (dsimp only; done) | rfl) (fun cc => ?_) (fun cc => ?_)
          · skip
            refine UP.icT rfl cc ?_
            refine UP.stp 3 (i1 := 42) (L1 := [some (.ref 0), some (.int 2), some (.int i), some (.int 0), some (.int j), some (.int n), some (.ref 119), some (.ref 115)]) (st1 := [.int n, .int i, .ref 119]) (s1 := s) rfl ?_
            refine UP.cI (M1 := m_X3_hasRange) (as := [.ref 119, .int i, .int n]) (rest := []) (T := F_hasRange_2 s i n) rfl rfl (ux_hasRange_2 s i n) ?_
            refine UP.spl (m_cmp .eq (F_hasRange_2 s i n) 0) (let z17 := F_find s 2; z17) (bif m_cmp .ne (F_hasRange_0 s j n) 0 then ((1, (mvs s 120 i.toNatClampNeg 116 j.toNatClampNeg n.toNatClampNeg))) else (let z21 := F_find s 2; z21)) (by first | (dsimp only [F_ccopy_20]; done) | (dsimp only; done) | rfl) (fun cc => ?_) (fun cc => ?_)
            · skip
              refine UP.ifT rfl cc ?_
              refine UP.stp 2 (i1 := 51) (L1 := [some (.ref 0), some (.int 2), some (.int i), some (.int 0), some (.int j), some (.int n), some (.ref 119), some (.ref 115)]) (st1 := [.int 2, .ref 0]) (s1 := s) rfl ?_
              refine UP.cB (M1 := m_X6_find) (as := [.ref 0, .int 2]) (rest := []) (T := F_find s 2) rfl rfl (ux_find s 2) (fun z17 e17 => ?_)
              exact UP.ret (r := some (.int z17.1)) rfl ⟨by subst e17; first | (dsimp only [F_ccopy_20]; done) | (dsimp only; done) | rfl, by subst e17; first | (dsimp only [F_ccopy_20]; done) | (dsimp only; done) | rfl⟩
            · skip
              refine UP.ifF rfl cc ?_
              refine UP.stp 3 (i1 := 47) (L1 := [some (.ref 0), some (.int 2), some (.int i), some (.int 0), some (.int j), some (.int n), some (.ref 119), some (.ref 115)]) (st1 := [.int n, .int j, .ref 115]) (s1 := s) rfl ?_
              refine UP.cI (M1 := m_X3_hasRange) (as := [.ref 115, .int j, .int n]) (rest := []) (T := F_hasRange_0 s j n) rfl rfl (ux_hasRange_0 s j n) ?_
              refine UP.spl (m_cmp .ne (F_hasRange_0 s j n) 0) ((1, (mvs s 120 i.toNatClampNeg 116 j.toNatClampNeg n.toNatClampNeg))) (let z21 := F_find s 2; z21) (by first | (dsimp only [F_ccopy_20]; done) | (dsimp only; done) | rfl) (fun cc => ?_) (fun cc => ?_)
              · skip
                refine UP.ifT rfl cc ?_
                refine UP.stp 9 (i1 := 62) (L1 := [some (.ref 0), some (.int 2), some (.int i), some (.int 0), some (.int j), some (.int n), some (.ref 119), some (.ref 115)]) (st1 := [.int 1]) (s1 := (mvs s 120 i.toNatClampNeg 116 j.toNatClampNeg n.toNatClampNeg)) rfl ?_
                exact UP.ret (r := some (.int 1)) rfl ⟨by first | (dsimp only [F_ccopy_20]; done) | (dsimp only; done) | rfl, by first | (dsimp only [F_ccopy_20]; done) | (dsimp only; done) | rfl⟩
              · skip
                refine UP.ifF rfl cc ?_
                refine UP.stp 2 (i1 := 51) (L1 := [some (.ref 0), some (.int 2), some (.int i), some (.int 0), some (.int j), some (.int n), some (.ref 119), some (.ref 115)]) (st1 := [.int 2, .ref 0]) (s1 := s) rfl ?_
                refine UP.cB (M1 := m_X6_find) (as := [.ref 0, .int 2]) (rest := []) (T := F_find s 2) rfl rfl (ux_find s 2) (fun z21 e21 => ?_)
                exact UP.ret (r := some (.int z21.1)) rfl ⟨by subst e21; first | (dsimp only [F_ccopy_20]; done) | (dsimp only; done) | rfl, by subst e21; first | (dsimp only [F_ccopy_20]; done) | (dsimp only; done) | rfl⟩
          · skip
            refine UP.icF rfl cc ?_
            refine UP.stp 2 (i1 := 37) (L1 := [some (.ref 0), some (.int 2), some (.int i), some (.int 0), some (.int j), some (.int n), some (.ref 119), some (.ref 115)]) (st1 := [.int 4, .ref 0]) (s1 := s) rfl ?_
            refine UP.cB (M1 := m_X6_find) (as := [.ref 0, .int 4]) (rest := []) (T := F_find s 4) rfl rfl (ux_find s 4) (fun z22 e22 => ?_)
            exact UP.ret (r := some (.int z22.1)) rfl ⟨by subst e22; first | (dsimp only [F_ccopy_20]; done) | (dsimp only; done) | rfl, by subst e22; first | (dsimp only [F_ccopy_20]; done) | (dsimp only; done) | rfl⟩
        · skip
          refine UP.ifF rfl cc ?_
          refine UP.stp 2 (i1 := 28) (L1 := [some (.ref 0), some (.int 2), some (.int i), some (.int 0), some (.int j), some (.int n), some (.ref 119), some (.ref 115)]) (st1 := [.int 1, .ref 0]) (s1 := s) rfl ?_
          refine UP.cB (M1 := m_X6_find) (as := [.ref 0, .int 1]) (rest := []) (T := F_find s 1) rfl rfl (ux_find s 1) (fun z23 e23 => ?_)
          exact UP.ret (r := some (.int z23.1)) rfl ⟨by subst e23; first | (dsimp only [F_ccopy_20]; done) | (dsimp only; done) | rfl, by subst e23; first | (dsimp only [F_ccopy_20]; done) | (dsimp only; done) | rfl⟩
    · skip
      refine UP.ifF rfl cc ?_
      refine UP.stp 1 (i1 := 9) (L1 := [some (.ref 0), some (.int 2), some (.int i), some (.int 0), some (.int j), some (.int n), none, none]) (st1 := [.int (-2)]) (s1 := s) rfl ?_
      exact UP.ret (r := some (.int (-2))) rfl ⟨by first | (dsimp only [F_ccopy_20]; done) | (dsimp only; done) | rfl, by first | (dsimp only [F_ccopy_20]; done) | (dsimp only; done) | rfl⟩
end
section
def W_ccopy_21 : List (Nat × Nat × Option Nat) := [(118, 118, none), (0, 0, some 4)]
def F_ccopy_21 (s : SG) (i : Int32) (j : Int32) (n : Int32) : Int32 × SG := bif m_cmp .eq (F_isBelow s 2 4) 0 then (((-2), s)) else (bif m_cmp .ne (F_isBelow s 1 4) 0 then (bif m_cmp .ne (s 119 1) 0 then (let z9 := F_find s 1; z9) else (bif m_cmp .eq (s 117 1) 0 then (bif m_cmp .eq (s 119 2) (s 117 2) then (bif m_cmp .eq (F_hasRange_2 s i n) 0 then (let z17 := F_find s 2; z17) else (bif m_cmp .ne (F_hasRange_1 s j n) 0 then ((1, (mvs s 120 i.toNatClampNeg 118 j.toNatClampNeg n.toNatClampNeg))) else (let z21 := F_find s 2; z21))) else (let z22 := F_find s 4; z22)) else (let z23 := F_find s 1; z23))) else (((-2), s)))
set_option maxRecDepth 20000 in
set_option maxHeartbeats 200000 in
theorem fr_ccopy_21 (s : SG) (i : Int32) (j : Int32) (n : Int32)  : Fr W_ccopy_21 s (F_ccopy_21 s i j n).2 := by dsimp only [F_ccopy_21]; exact (Fr.bifp (b := m_cmp .eq (F_isBelow s 2 4) 0) (x := ((-2), s)) (y := bif m_cmp .ne (F_isBelow s 1 4) 0 then (bif m_cmp .ne (s 119 1) 0 then (let z9 := F_find s 1; z9) else (bif m_cmp .eq (s 117 1) 0 then (bif m_cmp .eq (s 119 2) (s 117 2) then (bif m_cmp .eq (F_hasRange_2 s i n) 0 then (let z17 := F_find s 2; z17) else (bif m_cmp .ne (F_hasRange_1 s j n) 0 then ((1, (mvs s 120 i.toNatClampNeg 118 j.toNatClampNeg n.toNatClampNeg))) else (let z21 := F_find s 2; z21))) else (let z22 := F_find s 4; z22)) else (let z23 := F_find s 1; z23))) else (((-2), s))) (fun x : Int32 × SG => x.2) (by (try dsimp only); exact (Fr.rf _ _)) (by (try dsimp only); exact (Fr.bifp (b := m_cmp .ne (F_isBelow s 1 4) 0) (x := bif m_cmp .ne (s 119 1) 0 then (let z9 := F_find s 1; z9) else (bif m_cmp .eq (s 117 1) 0 then (bif m_cmp .eq (s 119 2) (s 117 2) then (bif m_cmp .eq (F_hasRange_2 s i n) 0 then (let z17 := F_find s 2; z17) else (bif m_cmp .ne (F_hasRange_1 s j n) 0 then ((1, (mvs s 120 i.toNatClampNeg 118 j.toNatClampNeg n.toNatClampNeg))) else (let z21 := F_find s 2; z21))) else (let z22 := F_find s 4; z22)) else (let z23 := F_find s 1; z23))) (y := ((-2), s)) (fun x : Int32 × SG => x.2) (by (try dsimp only); exact (Fr.bifp (b := m_cmp .ne (s 119 1) 0) (x := let z9 := F_find s 1; z9) (y := bif m_cmp .eq (s 117 1) 0 then (bif m_cmp .eq (s 119 2) (s 117 2) then (bif m_cmp .eq (F_hasRange_2 s i n) 0 then (let z17 := F_find s 2; z17) else (bif m_cmp .ne (F_hasRange_1 s j n) 0 then ((1, (mvs s 120 i.toNatClampNeg 118 j.toNatClampNeg n.toNatClampNeg))) else (let z21 := F_find s 2; z21))) else (let z22 := F_find s 4; z22)) else (let z23 := F_find s 1; z23)) (fun x : Int32 × SG => x.2) (by (try dsimp only); exact (Fr.tr (s1 := s) (Fr.rf _ _) (Fr.wk (W2 := W_ccopy_21) (fr_find s 1) (by rfl)))) (by (try dsimp only); exact (Fr.bifp (b := m_cmp .eq (s 117 1) 0) (x := bif m_cmp .eq (s 119 2) (s 117 2) then (bif m_cmp .eq (F_hasRange_2 s i n) 0 then (let z17 := F_find s 2; z17) else (bif m_cmp .ne (F_hasRange_1 s j n) 0 then ((1, (mvs s 120 i.toNatClampNeg 118 j.toNatClampNeg n.toNatClampNeg))) else (let z21 := F_find s 2; z21))) else (let z22 := F_find s 4; z22)) (y := let z23 := F_find s 1; z23) (fun x : Int32 × SG => x.2) (by (try dsimp only); exact (Fr.bifp (b := m_cmp .eq (s 119 2) (s 117 2)) (x := bif m_cmp .eq (F_hasRange_2 s i n) 0 then (let z17 := F_find s 2; z17) else (bif m_cmp .ne (F_hasRange_1 s j n) 0 then ((1, (mvs s 120 i.toNatClampNeg 118 j.toNatClampNeg n.toNatClampNeg))) else (let z21 := F_find s 2; z21))) (y := let z22 := F_find s 4; z22) (fun x : Int32 × SG => x.2) (by (try dsimp only); exact (Fr.bifp (b := m_cmp .eq (F_hasRange_2 s i n) 0) (x := let z17 := F_find s 2; z17) (y := bif m_cmp .ne (F_hasRange_1 s j n) 0 then ((1, (mvs s 120 i.toNatClampNeg 118 j.toNatClampNeg n.toNatClampNeg))) else (let z21 := F_find s 2; z21)) (fun x : Int32 × SG => x.2) (by (try dsimp only); exact (Fr.tr (s1 := s) (Fr.rf _ _) (Fr.wk (W2 := W_ccopy_21) (fr_find s 2) (by rfl)))) (by (try dsimp only); exact (Fr.bifp (b := m_cmp .ne (F_hasRange_1 s j n) 0) (x := (1, (mvs s 120 i.toNatClampNeg 118 j.toNatClampNeg n.toNatClampNeg))) (y := let z21 := F_find s 2; z21) (fun x : Int32 × SG => x.2) (by (try dsimp only); exact (Fr.mvs (by rfl) (Fr.rf _ _))) (by (try dsimp only); exact (Fr.tr (s1 := s) (Fr.rf _ _) (Fr.wk (W2 := W_ccopy_21) (fr_find s 2) (by rfl)))))))) (by (try dsimp only); exact (Fr.tr (s1 := s) (Fr.rf _ _) (Fr.wk (W2 := W_ccopy_21) (fr_find s 4) (by rfl)))))) (by (try dsimp only); exact (Fr.tr (s1 := s) (Fr.rf _ _) (Fr.wk (W2 := W_ccopy_21) (fr_find s 1) (by rfl)))))))) (by (try dsimp only); exact (Fr.rf _ _)))))
set_option maxRecDepth 20000 in
set_option maxHeartbeats 200000 in
theorem ux_ccopy_21 (s : SG) (i : Int32) (j : Int32) (n : Int32)  : UP m_X6_copy 0 (m_ent 8 [.ref 0, .int 2, .int i, .int 1, .int j, .int n]) [] s (Qb (F_ccopy_21 s i j n)) := by
  refine UP.stp 2 (i1 := 2) (L1 := [some (.ref 0), some (.int 2), some (.int i), some (.int 1), some (.int j), some (.int n), none, none]) (st1 := [.int 4, .int 2]) (s1 := s) rfl ?_
  refine UP.cI (M1 := m_X6_isBelow) (as := [.int 2, .int 4]) (rest := []) (T := F_isBelow s 2 4) rfl rfl (ux_isBelow s 2 4) ?_
  refine UP.spl (m_cmp .eq (F_isBelow s 2 4) 0) (((-2), s)) (bif m_cmp .ne (F_isBelow s 1 4) 0 then (bif m_cmp .ne (s 119 1) 0 then (let z9 := F_find s 1; z9) else (bif m_cmp .eq (s 117 1) 0 then (bif m_cmp .eq (s 119 2) (s 117 2) then (bif m_cmp .eq (F_hasRange_2 s i n) 0 then (let z17 := F_find s 2; z17) else (bif m_cmp .ne (F_hasRange_1 s j n) 0 then ((1, (mvs s 120 i.toNatClampNeg 118 j.toNatClampNeg n.toNatClampNeg))) else (let z21 := F_find s 2; z21))) else (let z22 := F_find s 4; z22)) else (let z23 := F_find s 1; z23))) else (((-2), s))) (by first | (dsimp only [F_ccopy_21]; done) | (dsimp only; done) | rfl) (fun cc => ?_) (fun cc => ?_)
  · skip
    refine UP.ifT rfl cc ?_
    refine UP.stp 1 (i1 := 9) (L1 := [some (.ref 0), some (.int 2), some (.int i), some (.int 1), some (.int j), some (.int n), none, none]) (st1 := [.int (-2)]) (s1 := s) rfl ?_
    exact UP.ret (r := some (.int (-2))) rfl ⟨by first | (dsimp only [F_ccopy_21]; done) | (dsimp only; done) | rfl, by first | (dsimp only [F_ccopy_21]; done) | (dsimp only; done) | rfl⟩
  · skip
    refine UP.ifF rfl cc ?_
    refine UP.stp 2 (i1 := 6) (L1 := [some (.ref 0), some (.int 2), some (.int i), some (.int 1), some (.int j), some (.int n), none, none]) (st1 := [.int 4, .int 1]) (s1 := s) rfl ?_
    refine UP.cI (M1 := m_X6_isBelow) (as := [.int 1, .int 4]) (rest := []) (T := F_isBelow s 1 4) rfl rfl (ux_isBelow s 1 4) ?_
    refine UP.spl (m_cmp .ne (F_isBelow s 1 4) 0) (bif m_cmp .ne (s 119 1) 0 then (let z9 := F_find s 1; z9) else (bif m_cmp .eq (s 117 1) 0 then (bif m_cmp .eq (s 119 2) (s 117 2) then (bif m_cmp .eq (F_hasRange_2 s i n) 0 then (let z17 := F_find s 2; z17) else (bif m_cmp .ne (F_hasRange_1 s j n) 0 then ((1, (mvs s 120 i.toNatClampNeg 118 j.toNatClampNeg n.toNatClampNeg))) else (let z21 := F_find s 2; z21))) else (let z22 := F_find s 4; z22)) else (let z23 := F_find s 1; z23))) (((-2), s)) (by first | (dsimp only [F_ccopy_21]; done) | (dsimp only; done) | rfl) (fun cc => ?_) (fun cc => ?_)
    · skip
      refine UP.ifT rfl cc ?_
      refine UP.stp 3 (i1 := 13) (L1 := [some (.ref 0), some (.int 2), some (.int i), some (.int 1), some (.int j), some (.int n), none, none]) (st1 := [.int 2, .ref 9]) (s1 := s) rfl ?_
      refine UP.aald (e := 2) (r := 119) rfl rfl (by omega) rfl ?_
      refine UP.stp 4 (i1 := 18) (L1 := [some (.ref 0), some (.int 2), some (.int i), some (.int 1), some (.int j), some (.int n), some (.ref 119), none]) (st1 := [.int 1, .ref 9]) (s1 := s) rfl ?_
      refine UP.aald (e := 1) (r := 117) rfl rfl (by omega) rfl ?_
      refine UP.stp 3 (i1 := 22) (L1 := [some (.ref 0), some (.int 2), some (.int i), some (.int 1), some (.int j), some (.int n), some (.ref 119), some (.ref 117)]) (st1 := [.int (s 119 1)]) (s1 := s) rfl ?_
      refine UP.spl (m_cmp .ne (s 119 1) 0) (let z9 := F_find s 1; z9) (bif m_cmp .eq (s 117 1) 0 then (bif m_cmp .eq (s 119 2) (s 117 2) then (bif m_cmp .eq (F_hasRange_2 s i n) 0 then (let z17 := F_find s 2; z17) else (bif m_cmp .ne (F_hasRange_1 s j n) 0 then ((1, (mvs s 120 i.toNatClampNeg 118 j.toNatClampNeg n.toNatClampNeg))) else (let z21 := F_find s 2; z21))) else (let z22 := F_find s 4; z22)) else (let z23 := F_find s 1; z23)) (by first | (dsimp only [F_ccopy_21]; done) | (dsimp only; done) | rfl) (fun cc => ?_) (fun cc => ?_)
      · skip
        refine UP.ifT rfl cc ?_
        refine UP.stp 2 (i1 := 28) (L1 := [some (.ref 0), some (.int 2), some (.int i), some (.int 1), some (.int j), some (.int n), some (.ref 119), some (.ref 117)]) (st1 := [.int 1, .ref 0]) (s1 := s) rfl ?_
        refine UP.cB (M1 := m_X6_find) (as := [.ref 0, .int 1]) (rest := []) (T := F_find s 1) rfl rfl (ux_find s 1) (fun z9 e9 => ?_)
        exact UP.ret (r := some (.int z9.1)) rfl ⟨by subst e9; first | (dsimp only [F_ccopy_21]; done) | (dsimp only; done) | rfl, by subst e9; first | (dsimp only [F_ccopy_21]; done) | (dsimp only; done) | rfl⟩
      · skip
        refine UP.ifF rfl cc ?_
        refine UP.stp 2 (i1 := 25) (L1 := [some (.ref 0), some (.int 2), some (.int i), some (.int 1), some (.int j), some (.int n), some (.ref 119), some (.ref 117)]) (st1 := [.int (s 117 1)]) (s1 := s) rfl ?_
        refine UP.spl (m_cmp .eq (s 117 1) 0) (bif m_cmp .eq (s 119 2) (s 117 2) then (bif m_cmp .eq (F_hasRange_2 s i n) 0 then (let z17 := F_find s 2; z17) else (bif m_cmp .ne (F_hasRange_1 s j n) 0 then ((1, (mvs s 120 i.toNatClampNeg 118 j.toNatClampNeg n.toNatClampNeg))) else (let z21 := F_find s 2; z21))) else (let z22 := F_find s 4; z22)) (let z23 := F_find s 1; z23) (by first | (dsimp only [F_ccopy_21]; done) | (dsimp only; done) | rfl) (fun cc => ?_) (fun cc => ?_)
        · skip
          refine UP.ifT rfl cc ?_
          refine UP.stp 4 (i1 := 34) (L1 := [some (.ref 0), some (.int 2), some (.int i), some (.int 1), some (.int j), some (.int n), some (.ref 119), some (.ref 117)]) (st1 := [.int (s 117 2), .int (s 119 2)]) (s1 := s) rfl ?_
          refine UP.spl (m_cmp .eq (s 119 2) (s 117 2)) (bif m_cmp .eq (F_hasRange_2 s i n) 0 then (let z17 := F_find s 2; z17) else (bif m_cmp .ne (F_hasRange_1 s j n) 0 then ((1, (mvs s 120 i.toNatClampNeg 118 j.toNatClampNeg n.toNatClampNeg))) else (let z21 := F_find s 2; z21))) (let z22 := F_find s 4; z22) (by first | (dsimp only [F_ccopy_21]; done) | (dsimp only; done) | rfl) (fun cc => ?_) (fun cc => ?_)
          · skip
            refine UP.icT rfl cc ?_
            refine UP.stp 3 (i1 := 42) (L1 := [some (.ref 0), some (.int 2), some (.int i), some (.int 1), some (.int j), some (.int n), some (.ref 119), some (.ref 117)]) (st1 := [.int n, .int i, .ref 119]) (s1 := s) rfl ?_
            refine UP.cI (M1 := m_X3_hasRange) (as := [.ref 119, .int i, .int n]) (rest := []) (T := F_hasRange_2 s i n) rfl rfl (ux_hasRange_2 s i n) ?_
            refine UP.spl (m_cmp .eq (F_hasRange_2 s i n) 0) (let z17 := F_find s 2; z17) (bif m_cmp .ne (F_hasRange_1 s j n) 0 then ((1, (mvs s 120 i.toNatClampNeg 118 j.toNatClampNeg n.toNatClampNeg))) else (let z21 := F_find s 2; z21)) (by first | (dsimp only [F_ccopy_21]; done) | (dsimp only; done) | rfl) (fun cc => ?_) (fun cc => ?_)
            · skip
              refine UP.ifT rfl cc ?_
              refine UP.stp 2 (i1 := 51) (L1 := [some (.ref 0), some (.int 2), some (.int i), some (.int 1), some (.int j), some (.int n), some (.ref 119), some (.ref 117)]) (st1 := [.int 2, .ref 0]) (s1 := s) rfl ?_
              refine UP.cB (M1 := m_X6_find) (as := [.ref 0, .int 2]) (rest := []) (T := F_find s 2) rfl rfl (ux_find s 2) (fun z17 e17 => ?_)
              exact UP.ret (r := some (.int z17.1)) rfl ⟨by subst e17; first | (dsimp only [F_ccopy_21]; done) | (dsimp only; done) | rfl, by subst e17; first | (dsimp only [F_ccopy_21]; done) | (dsimp only; done) | rfl⟩
            · skip
              refine UP.ifF rfl cc ?_
              refine UP.stp 3 (i1 := 47) (L1 := [some (.ref 0), some (.int 2), some (.int i), some (.int 1), some (.int j), some (.int n), some (.ref 119), some (.ref 117)]) (st1 := [.int n, .int j, .ref 117]) (s1 := s) rfl ?_
              refine UP.cI (M1 := m_X3_hasRange) (as := [.ref 117, .int j, .int n]) (rest := []) (T := F_hasRange_1 s j n) rfl rfl (ux_hasRange_1 s j n) ?_
              refine UP.spl (m_cmp .ne (F_hasRange_1 s j n) 0) ((1, (mvs s 120 i.toNatClampNeg 118 j.toNatClampNeg n.toNatClampNeg))) (let z21 := F_find s 2; z21) (by first | (dsimp only [F_ccopy_21]; done) | (dsimp only; done) | rfl) (fun cc => ?_) (fun cc => ?_)
              · skip
                refine UP.ifT rfl cc ?_
                refine UP.stp 9 (i1 := 62) (L1 := [some (.ref 0), some (.int 2), some (.int i), some (.int 1), some (.int j), some (.int n), some (.ref 119), some (.ref 117)]) (st1 := [.int 1]) (s1 := (mvs s 120 i.toNatClampNeg 118 j.toNatClampNeg n.toNatClampNeg)) rfl ?_
                exact UP.ret (r := some (.int 1)) rfl ⟨by first | (dsimp only [F_ccopy_21]; done) | (dsimp only; done) | rfl, by first | (dsimp only [F_ccopy_21]; done) | (dsimp only; done) | rfl⟩
              · skip
                refine UP.ifF rfl cc ?_
                refine UP.stp 2 (i1 := 51) (L1 := [some (.ref 0), some (.int 2), some (.int i), some (.int 1), some (.int j), some (.int n), some (.ref 119), some (.ref 117)]) (st1 := [.int 2, .ref 0]) (s1 := s) rfl ?_
                refine UP.cB (M1 := m_X6_find) (as := [.ref 0, .int 2]) (rest := []) (T := F_find s 2) rfl rfl (ux_find s 2) (fun z21 e21 => ?_)
                exact UP.ret (r := some (.int z21.1)) rfl ⟨by subst e21; first | (dsimp only [F_ccopy_21]; done) | (dsimp only; done) | rfl, by subst e21; first | (dsimp only [F_ccopy_21]; done) | (dsimp only; done) | rfl⟩
          · skip
            refine UP.icF rfl cc ?_
            refine UP.stp 2 (i1 := 37) (L1 := [some (.ref 0), some (.int 2), some (.int i), some (.int 1), some (.int j), some (.int n), some (.ref 119), some (.ref 117)]) (st1 := [.int 4, .ref 0]) (s1 := s) rfl ?_
            refine UP.cB (M1 := m_X6_find) (as := [.ref 0, .int 4]) (rest := []) (T := F_find s 4) rfl rfl (ux_find s 4) (fun z22 e22 => ?_)
            exact UP.ret (r := some (.int z22.1)) rfl ⟨by subst e22; first | (dsimp only [F_ccopy_21]; done) | (dsimp only; done) | rfl, by subst e22; first | (dsimp only [F_ccopy_21]; done) | (dsimp only; done) | rfl⟩
        · skip
          refine UP.ifF rfl cc ?_
          refine UP.stp 2 (i1 := 28) (L1 := [some (.ref 0), some (.int 2), some (.int i), some (.int 1), some (.int j), some (.int n), some (.ref 119), some (.ref 117)]) (st1 := [.int 1, .ref 0]) (s1 := s) rfl ?_
          refine UP.cB (M1 := m_X6_find) (as := [.ref 0, .int 1]) (rest := []) (T := F_find s 1) rfl rfl (ux_find s 1) (fun z23 e23 => ?_)
          exact UP.ret (r := some (.int z23.1)) rfl ⟨by subst e23; first | (dsimp only [F_ccopy_21]; done) | (dsimp only; done) | rfl, by subst e23; first | (dsimp only [F_ccopy_21]; done) | (dsimp only; done) | rfl⟩
    · skip
      refine UP.ifF rfl cc ?_
      refine UP.stp 1 (i1 := 9) (L1 := [some (.ref 0), some (.int 2), some (.int i), some (.int 1), some (.int j), some (.int n), none, none]) (st1 := [.int (-2)]) (s1 := s) rfl ?_
      exact UP.ret (r := some (.int (-2))) rfl ⟨by first | (dsimp only [F_ccopy_21]; done) | (dsimp only; done) | rfl, by first | (dsimp only [F_ccopy_21]; done) | (dsimp only; done) | rfl⟩
end
