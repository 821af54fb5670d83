section
def W_cput_1 : List (Nat × Nat × Option Nat) := [(117, 117, none), (118, 118, none), (0, 0, some 4)]
def F_cput_1 (s : SG) (form : Int32) (i : Int32) (v : Int32) : Int32 × SG := bif m_cmp .eq (F_isBelow s 1 4) 0 then (((-2), s)) else (bif m_cmp .ne (F_isBelow s form 3) 0 then (let v8 := F_findingOf_1 s form i; bif m_cmp .eq v8 0 then (let z11 := F_ckeep_1 s i v; (1, z11)) else (let z12 := F_find s v8; z12)) else (((-2), s)))
set_option maxRecDepth 20000 in
set_option maxHeartbeats 200000 in
theorem fr_cput_1 (s : SG) (form : Int32) (i : Int32) (v : Int32)  : Fr W_cput_1 s (F_cput_1 s form i v).2 := by dsimp only [F_cput_1]; exact (Fr.bifp (b := m_cmp .eq (F_isBelow s 1 4) 0) (x := ((-2), s)) (y := bif m_cmp .ne (F_isBelow s form 3) 0 then (let v8 := F_findingOf_1 s form i; bif m_cmp .eq v8 0 then (let z11 := F_ckeep_1 s i v; (1, z11)) else (let z12 := F_find s v8; z12)) else (((-2), s))) (fun x : Int32 × SG => x.2) (by (try dsimp only); exact (Fr.rf _ _)) (by (try dsimp only); exact (Fr.bifp (b := m_cmp .ne (F_isBelow s form 3) 0) (x := let v8 := F_findingOf_1 s form i; bif m_cmp .eq v8 0 then (let z11 := F_ckeep_1 s i v; (1, z11)) else (let z12 := F_find s v8; z12)) (y := ((-2), s)) (fun x : Int32 × SG => x.2) (by (try dsimp only); exact (let v8 : Int32 := F_findingOf_1 s form i; (Fr.bifp (b := m_cmp .eq v8 0) (x := let z11 := F_ckeep_1 s i v; (1, z11)) (y := let z12 := F_find s v8; z12) (fun x : Int32 × SG => x.2) (by (try dsimp only); exact (Fr.tr (s1 := s) (Fr.rf _ _) (Fr.wk (W2 := W_cput_1) (fr_ckeep_1 s i v) (by rfl)))) (by (try dsimp only); exact (Fr.tr (s1 := s) (Fr.rf _ _) (Fr.wk (W2 := W_cput_1) (fr_find s v8) (by rfl))))))) (by (try dsimp only); exact (Fr.rf _ _)))))
set_option maxRecDepth 20000 in
set_option maxHeartbeats 200000 in
theorem ux_cput_1 (s : SG) (form : Int32) (i : Int32) (v : Int32)  : UP m_X6_put 0 (m_ent 6 [.ref 0, .int 1, .int form, .int i, .int v]) [] s (Qb (F_cput_1 s form i v)) := by
  refine UP.stp 2 (i1 := 2) (L1 := [some (.ref 0), some (.int 1), some (.int form), some (.int i), some (.int v), none]) (st1 := [.int 4, .int 1]) (s1 := s) rfl ?_
  refine UP.cI (M1 := m_X6_isBelow) (as := [.int 1, .int 4]) (rest := []) (T := F_isBelow s 1 4) rfl rfl (ux_isBelow s 1 4) ?_
  refine UP.spl (m_cmp .eq (F_isBelow s 1 4) 0) (((-2), s)) (bif m_cmp .ne (F_isBelow s form 3) 0 then (let v8 := F_findingOf_1 s form i; bif m_cmp .eq v8 0 then (let z11 := F_ckeep_1 s i v; (1, z11)) else (let z12 := F_find s v8; z12)) else (((-2), s))) (by first | (dsimp only [F_cput_1]; done) | (dsimp only; done) | rfl) (fun cc => ?_) (fun cc => ?_)
  · skip
    refine UP.ifT rfl cc ?_
    refine UP.stp 1 (i1 := 9) (L1 := [some (.ref 0), some (.int 1), some (.int form), some (.int i), some (.int v), none]) (st1 := [.int (-2)]) (s1 := s) rfl ?_
    exact UP.ret (r := some (.int (-2))) rfl ⟨by first | (dsimp only [F_cput_1]; done) | (dsimp only; done) | rfl, by first | (dsimp only [F_cput_1]; done) | (dsimp only; done) | rfl⟩
  · skip
    refine UP.ifF rfl cc ?_
    refine UP.stp 2 (i1 := 6) (L1 := [some (.ref 0), some (.int 1), some (.int form), some (.int i), some (.int v), none]) (st1 := [.int 3, .int form]) (s1 := s) rfl ?_
    refine UP.cI (M1 := m_X6_isBelow) (as := [.int form, .int 3]) (rest := []) (T := F_isBelow s form 3) rfl rfl (ux_isBelow s form 3) ?_
    refine UP.spl (m_cmp .ne (F_isBelow s form 3) 0) (let v8 := F_findingOf_1 s form i; bif m_cmp .eq v8 0 then (let z11 := F_ckeep_1 s i v; (1, z11)) else (let z12 := F_find s v8; z12)) (((-2), s)) (by first | (dsimp only [F_cput_1]; done) | (dsimp only; done) | rfl) (fun cc => ?_) (fun cc => ?_)
    · skip
      refine UP.ifT rfl cc ?_
      refine UP.stp 3 (i1 := 13) (L1 := [some (.ref 0), some (.int 1), some (.int form), some (.int i), some (.int v), none]) (st1 := [.int 1, .ref 9]) (s1 := s) rfl ?_
      refine UP.aald (e := 1) (r := 117) rfl rfl (by omega) rfl ?_
      refine UP.stp 2 (i1 := 16) (L1 := [some (.ref 0), some (.int 1), some (.int form), some (.int i), some (.int v), none]) (st1 := [.int i, .int form, .ref 117]) (s1 := s) rfl ?_
      refine UP.cI (M1 := m_X3_findingOf) (as := [.ref 117, .int form, .int i]) (rest := []) (T := F_findingOf_1 s form i) rfl rfl (ux_findingOf_1 s form i) ?_
      refine nm (G := fun v8 => UP m_X6_put 17 [some (.ref 0), some (.int 1), some (.int form), some (.int i), some (.int v), none] [.int v8] s (Qb (let v8 := F_findingOf_1 s form i; bif m_cmp .eq v8 0 then (let z11 := F_ckeep_1 s i v; (1, z11)) else (let z12 := F_find s v8; z12)))) (F_findingOf_1 s form i) (fun v8 e8 => ?_)
      refine UP.stp 2 (i1 := 19) (L1 := [some (.ref 0), some (.int 1), some (.int form), some (.int i), some (.int v), some (.int v8)]) (st1 := [.int v8]) (s1 := s) rfl ?_
      refine UP.spl (m_cmp .eq v8 0) (let z11 := F_ckeep_1 s i v; (1, z11)) (let z12 := F_find s v8; z12) (by subst e8; first | (dsimp only [F_cput_1]; done) | (dsimp only; done) | rfl) (fun cc => ?_) (fun cc => ?_)
      · skip
        refine UP.ifT rfl cc ?_
        refine UP.stp 3 (i1 := 27) (L1 := [some (.ref 0), some (.int 1), some (.int form), some (.int i), some (.int v), some (.int v8)]) (st1 := [.int 1, .ref 9]) (s1 := s) rfl ?_
        refine UP.aald (e := 1) (r := 117) rfl rfl (by omega) rfl ?_
        refine UP.stp 2 (i1 := 30) (L1 := [some (.ref 0), some (.int 1), some (.int form), some (.int i), some (.int v), some (.int v8)]) (st1 := [.int v, .int i, .ref 117]) (s1 := s) rfl ?_
        refine UP.cV (M1 := m_X3_keep) (as := [.ref 117, .int i, .int v]) (rest := []) (T := F_ckeep_1 s i v) rfl rfl (ux_ckeep_1 s i v) (fun z11 e11 => ?_)
        refine UP.stp 1 (i1 := 32) (L1 := [some (.ref 0), some (.int 1), some (.int form), some (.int i), some (.int v), some (.int v8)]) (st1 := [.int 1]) (s1 := z11) rfl ?_
        exact UP.ret (r := some (.int 1)) rfl ⟨by subst e11 e8; first | (dsimp only [F_cput_1]; done) | (dsimp only; done) | rfl, by subst e11 e8; first | (dsimp only [F_cput_1]; done) | (dsimp only; done) | rfl⟩
      · skip
        refine UP.ifF rfl cc ?_
        refine UP.stp 2 (i1 := 22) (L1 := [some (.ref 0), some (.int 1), some (.int form), some (.int i), some (.int v), some (.int v8)]) (st1 := [.int v8, .ref 0]) (s1 := s) rfl ?_
        refine UP.cB (M1 := m_X6_find) (as := [.ref 0, .int v8]) (rest := []) (T := F_find s v8) rfl rfl (ux_find s v8) (fun z12 e12 => ?_)
        exact UP.ret (r := some (.int z12.1)) rfl ⟨by subst e12 e8; first | (dsimp only [F_cput_1]; done) | (dsimp only; done) | rfl, by subst e12 e8; first | (dsimp only [F_cput_1]; done) | (dsimp only; done) | rfl⟩
    · skip
      refine UP.ifF rfl cc ?_
      refine UP.stp 1 (i1 := 9) (L1 := [some (.ref 0), some (.int 1), some (.int form), some (.int i), some (.int v), none]) (st1 := [.int (-2)]) (s1 := s) rfl ?_
      exact UP.ret (r := some (.int (-2))) rfl ⟨by first | (dsimp only [F_cput_1]; done) | (dsimp only; done) | rfl, by first | (dsimp only [F_cput_1]; done) | (dsimp only; done) | rfl⟩
end
section
def W_cget_1 : List (Nat × Nat × Option Nat) := [(117, 117, none), (118, 118, none), (0, 0, some 4)]
def F_cget_1 (s : SG) (form : Int32) (i : Int32) : Int32 × SG := bif m_cmp .eq (F_isBelow s 1 4) 0 then (((-2147483648), s)) else (bif m_cmp .ne (F_isBelow s form 3) 0 then (let v8 := F_findingOf_1 s form i; bif m_cmp .eq v8 0 then ((s 118 i.toNatClampNeg, s)) else (((-2147483648), (uset s 0 4 v8)))) else (((-2147483648), s)))
set_option maxRecDepth 20000 in
set_option maxHeartbeats 200000 in
theorem fr_cget_1 (s : SG) (form : Int32) (i : Int32)  : Fr W_cget_1 s (F_cget_1 s form i).2 := by dsimp only [F_cget_1]; exact (Fr.bifp (b := m_cmp .eq (F_isBelow s 1 4) 0) (x := ((-2147483648), s)) (y := bif m_cmp .ne (F_isBelow s form 3) 0 then (let v8 := F_findingOf_1 s form i; bif m_cmp .eq v8 0 then ((s 118 i.toNatClampNeg, s)) else (((-2147483648), (uset s 0 4 v8)))) else (((-2147483648), s))) (fun x : Int32 × SG => x.2) (by (try dsimp only); exact (Fr.rf _ _)) (by (try dsimp only); exact (Fr.bifp (b := m_cmp .ne (F_isBelow s form 3) 0) (x := let v8 := F_findingOf_1 s form i; bif m_cmp .eq v8 0 then ((s 118 i.toNatClampNeg, s)) else (((-2147483648), (uset s 0 4 v8)))) (y := ((-2147483648), s)) (fun x : Int32 × SG => x.2) (by (try dsimp only); exact (let v8 : Int32 := F_findingOf_1 s form i; (Fr.bifp (b := m_cmp .eq v8 0) (x := (s 118 i.toNatClampNeg, s)) (y := ((-2147483648), (uset s 0 4 v8))) (fun x : Int32 × SG => x.2) (by (try dsimp only); exact (Fr.rf _ _)) (by (try dsimp only); exact (Fr.uset (s1 := s) (a := 0) (j := 4) (x := v8) (by rfl) (Fr.rf _ _)))))) (by (try dsimp only); exact (Fr.rf _ _)))))
set_option maxRecDepth 20000 in
set_option maxHeartbeats 200000 in
theorem ux_cget_1 (s : SG) (form : Int32) (i : Int32)  : UP m_X6_get 0 (m_ent 5 [.ref 0, .int 1, .int form, .int i]) [] s (Qb (F_cget_1 s form i)) := by
  refine UP.stp 2 (i1 := 2) (L1 := [some (.ref 0), some (.int 1), some (.int form), some (.int i), none]) (st1 := [.int 4, .int 1]) (s1 := s) rfl ?_
  refine UP.cI (M1 := m_X6_isBelow) (as := [.int 1, .int 4]) (rest := []) (T := F_isBelow s 1 4) rfl rfl (ux_isBelow s 1 4) ?_
  refine UP.spl (m_cmp .eq (F_isBelow s 1 4) 0) (((-2147483648), s)) (bif m_cmp .ne (F_isBelow s form 3) 0 then (let v8 := F_findingOf_1 s form i; bif m_cmp .eq v8 0 then ((s 118 i.toNatClampNeg, s)) else (((-2147483648), (uset s 0 4 v8)))) else (((-2147483648), s))) (by first | (dsimp only [F_cget_1]; done) | (dsimp only; done) | rfl) (fun cc => ?_) (fun cc => ?_)
  · skip
    refine UP.ifT rfl cc ?_
    refine UP.stp 1 (i1 := 9) (L1 := [some (.ref 0), some (.int 1), some (.int form), some (.int i), none]) (st1 := [.int (-2147483648)]) (s1 := s) rfl ?_
    exact UP.ret (r := some (.int (-2147483648))) rfl ⟨by first | (dsimp only [F_cget_1]; done) | (dsimp only; done) | rfl, by first | (dsimp only [F_cget_1]; done) | (dsimp only; done) | rfl⟩
  · skip
    refine UP.ifF rfl cc ?_
    refine UP.stp 2 (i1 := 6) (L1 := [some (.ref 0), some (.int 1), some (.int form), some (.int i), none]) (st1 := [.int 3, .int form]) (s1 := s) rfl ?_
    refine UP.cI (M1 := m_X6_isBelow) (as := [.int form, .int 3]) (rest := []) (T := F_isBelow s form 3) rfl rfl (ux_isBelow s form 3) ?_
    refine UP.spl (m_cmp .ne (F_isBelow s form 3) 0) (let v8 := F_findingOf_1 s form i; bif m_cmp .eq v8 0 then ((s 118 i.toNatClampNeg, s)) else (((-2147483648), (uset s 0 4 v8)))) (((-2147483648), s)) (by first | (dsimp only [F_cget_1]; done) | (dsimp only; done) | rfl) (fun cc => ?_) (fun cc => ?_)
    · skip
      refine UP.ifT rfl cc ?_
      refine UP.stp 3 (i1 := 13) (L1 := [some (.ref 0), some (.int 1), some (.int form), some (.int i), none]) (st1 := [.int 1, .ref 9]) (s1 := s) rfl ?_
      refine UP.aald (e := 1) (r := 117) rfl rfl (by omega) rfl ?_
      refine UP.stp 2 (i1 := 16) (L1 := [some (.ref 0), some (.int 1), some (.int form), some (.int i), none]) (st1 := [.int i, .int form, .ref 117]) (s1 := s) rfl ?_
      refine UP.cI (M1 := m_X3_findingOf) (as := [.ref 117, .int form, .int i]) (rest := []) (T := F_findingOf_1 s form i) rfl rfl (ux_findingOf_1 s form i) ?_
      refine nm (G := fun v8 => UP m_X6_get 17 [some (.ref 0), some (.int 1), some (.int form), some (.int i), none] [.int v8] s (Qb (let v8 := F_findingOf_1 s form i; bif m_cmp .eq v8 0 then ((s 118 i.toNatClampNeg, s)) else (((-2147483648), (uset s 0 4 v8)))))) (F_findingOf_1 s form i) (fun v8 e8 => ?_)
      refine UP.stp 2 (i1 := 19) (L1 := [some (.ref 0), some (.int 1), some (.int form), some (.int i), some (.int v8)]) (st1 := [.int v8]) (s1 := s) rfl ?_
      refine UP.spl (m_cmp .eq v8 0) ((s 118 i.toNatClampNeg, s)) (((-2147483648), (uset s 0 4 v8))) (by subst e8; first | (dsimp only [F_cget_1]; done) | (dsimp only; done) | rfl) (fun cc => ?_) (fun cc => ?_)
      · skip
        refine UP.ifT rfl cc ?_
        refine UP.stp 3 (i1 := 28) (L1 := [some (.ref 0), some (.int 1), some (.int form), some (.int i), some (.int v8)]) (st1 := [.int 1, .ref 9]) (s1 := s) rfl ?_
        refine UP.aald (e := 1) (r := 117) rfl rfl (by omega) rfl ?_
        refine UP.stp 3 (i1 := 32) (L1 := [some (.ref 0), some (.int 1), some (.int form), some (.int i), some (.int v8)]) (st1 := [.int (s 118 i.toNatClampNeg)]) (s1 := s) rfl ?_
        exact UP.ret (r := some (.int (s 118 i.toNatClampNeg))) rfl ⟨by subst e8; first | (dsimp only [F_cget_1]; done) | (dsimp only; done) | rfl, by subst e8; first | (dsimp only [F_cget_1]; done) | (dsimp only; done) | rfl⟩
      · skip
        refine UP.ifF rfl cc ?_
        refine UP.stp 4 (i1 := 24) (L1 := [some (.ref 0), some (.int 1), some (.int form), some (.int i), some (.int v8)]) (st1 := [.int (-2147483648)]) (s1 := (uset s 0 4 v8)) rfl ?_
        exact UP.ret (r := some (.int (-2147483648))) rfl ⟨by subst e8; first | (dsimp only [F_cget_1]; done) | (dsimp only; done) | rfl, by subst e8; first | (dsimp only [F_cget_1]; done) | (dsimp only; done) | rfl⟩
    · skip
      refine UP.ifF rfl cc ?_
      refine UP.stp 1 (i1 := 9) (L1 := [some (.ref 0), some (.int 1), some (.int form), some (.int i), none]) (st1 := [.int (-2147483648)]) (s1 := s) rfl ?_
      exact UP.ret (r := some (.int (-2147483648))) rfl ⟨by first | (dsimp only [F_cget_1]; done) | (dsimp only; done) | rfl, by first | (dsimp only [F_cget_1]; done) | (dsimp only; done) | rfl⟩
end
section
def W_cwrite_1 : List (Nat × Nat × Option Nat) := [(16, 20, none), (22, 45, none), (46, 52, none), (15, 15, some 8), (59, 63, none), (65, 88, none), (89, 95, none), (58, 58, some 8), (53, 57, none), (96, 108, none), (0, 0, some 12), (0, 0, some 13), (117, 117, none), (118, 118, none), (0, 0, some 4)]
def B_cwrite_1_32 (what : Int32) (i11 : Nat) (a11 : SG) : SG := let v12 := bif m_cmp .ne what 0 then a11 17 i11 else a11 16 i11; let z13 := F_ckeep_1 a11 (Int32.ofNat i11) v12; z13
set_option maxRecDepth 20000 in
set_option maxHeartbeats 200000 in
theorem fr_B_cwrite_1_32 (what : Int32) (i11 : Nat) (a11 : SG)   : Fr W_cwrite_1 a11 ((B_cwrite_1_32 what) i11 a11) := by dsimp only [B_cwrite_1_32]; exact (let v12 : Int32 := bif m_cmp .ne what 0 then a11 17 i11 else a11 16 i11; (Fr.tr (s1 := a11) (Fr.rf _ _) (Fr.wk (W2 := W_cwrite_1) (fr_ckeep_1 a11 (Int32.ofNat i11) v12) (by rfl))))
def F_cwrite_1 (s : SG) (what : Int32) : Int32 × SG := bif m_cmp .eq (F_isBelow s what 2) 0 then (((-2), s)) else (bif m_cmp .ne (F_isBelow s 1 4) 0 then (bif m_cmp .eq (s 117 1) 0 then (let z9 := F_toldTrip s ; let v10 := (if 24 < (z9 117 3) then 24 else (z9 117 3)); let z11 := itr (B_cwrite_1_32 what) 0 ((v10).toNatClampNeg) z9; (v10, z11)) else (let z14 := F_find s 1; z14)) else (((-2), s)))
set_option maxRecDepth 20000 in
set_option maxHeartbeats 200000 in
theorem fr_cwrite_1 (s : SG) (what : Int32)  : Fr W_cwrite_1 s (F_cwrite_1 s what).2 := by dsimp only [F_cwrite_1]; exact (Fr.bifp (b := m_cmp .eq (F_isBelow s what 2) 0) (x := ((-2), s)) (y := bif m_cmp .ne (F_isBelow s 1 4) 0 then (bif m_cmp .eq (s 117 1) 0 then (let z9 := F_toldTrip s ; let v10 := (if 24 < (z9 117 3) then 24 else (z9 117 3)); let z11 := itr (B_cwrite_1_32 what) 0 ((v10).toNatClampNeg) z9; (v10, z11)) else (let z14 := F_find s 1; z14)) else (((-2), s))) (fun x : Int32 × SG => x.2) (by (try dsimp only); exact (Fr.rf _ _)) (by (try dsimp only); exact (Fr.bifp (b := m_cmp .ne (F_isBelow s 1 4) 0) (x := bif m_cmp .eq (s 117 1) 0 then (let z9 := F_toldTrip s ; let v10 := (if 24 < (z9 117 3) then 24 else (z9 117 3)); let z11 := itr (B_cwrite_1_32 what) 0 ((v10).toNatClampNeg) z9; (v10, z11)) else (let z14 := F_find s 1; z14)) (y := ((-2), s)) (fun x : Int32 × SG => x.2) (by (try dsimp only); exact (Fr.bifp (b := m_cmp .eq (s 117 1) 0) (x := let z9 := F_toldTrip s ; let v10 := (if 24 < (z9 117 3) then 24 else (z9 117 3)); let z11 := itr (B_cwrite_1_32 what) 0 ((v10).toNatClampNeg) z9; (v10, z11)) (y := let z14 := F_find s 1; z14) (fun x : Int32 × SG => x.2) (by (try dsimp only); exact (let z9 : SG := F_toldTrip s ; (let v10 : Int32 := (if 24 < (z9 117 3) then 24 else (z9 117 3)); (Fr.itr (W := W_cwrite_1) (m := (fun x : SG => x)) (f := (B_cwrite_1_32 what)) (fun ii aa => Fr.wk (W2 := W_cwrite_1) (fr_B_cwrite_1_32 what ii aa ) (by rfl)) ((v10).toNatClampNeg) 0 z9 (Fr.tr (s1 := s) (Fr.rf _ _) (Fr.wk (W2 := W_cwrite_1) (fr_toldTrip s ) (by rfl))))))) (by (try dsimp only); exact (Fr.tr (s1 := s) (Fr.rf _ _) (Fr.wk (W2 := W_cwrite_1) (fr_find s 1) (by rfl)))))) (by (try dsimp only); exact (Fr.rf _ _)))))
set_option maxRecDepth 20000 in
set_option maxHeartbeats 200000 in
theorem ux_cwrite_1 (s : SG) (what : Int32)  : UP m_X6_write 0 (m_ent 7 [.ref 0, .int what, .int 1]) [] s (Qb (F_cwrite_1 s what)) := by
  refine UP.stp 2 (i1 := 2) (L1 := [some (.ref 0), some (.int what), some (.int 1), none, none, none, none]) (st1 := [.int 2, .int what]) (s1 := s) rfl ?_
  refine UP.cI (M1 := m_X6_isBelow) (as := [.int what, .int 2]) (rest := []) (T := F_isBelow s what 2) rfl rfl (ux_isBelow s what 2) ?_
  refine UP.spl (m_cmp .eq (F_isBelow s what 2) 0) (((-2), s)) (bif m_cmp .ne (F_isBelow s 1 4) 0 then (bif m_cmp .eq (s 117 1) 0 then (let z9 := F_toldTrip s ; let v10 := (if 24 < (z9 117 3) then 24 else (z9 117 3)); let z11 := itr (B_cwrite_1_32 what) 0 ((v10).toNatClampNeg) z9; (v10, z11)) else (let z14 := F_find s 1; z14)) else (((-2), s))) (by first | (dsimp only [F_cwrite_1]; done) | (dsimp only; done) | rfl) (fun cc => ?_) (fun cc => ?_)
  · skip
    refine UP.ifT rfl cc ?_
    refine UP.stp 1 (i1 := 9) (L1 := [some (.ref 0), some (.int what), some (.int 1), none, none, none, none]) (st1 := [.int (-2)]) (s1 := s) rfl ?_
    exact UP.ret (r := some (.int (-2))) rfl ⟨by first | (dsimp only [F_cwrite_1]; done) | (dsimp only; done) | rfl, by first | (dsimp only [F_cwrite_1]; done) | (dsimp only; done) | rfl⟩
  · skip
    refine UP.ifF rfl cc ?_
    refine UP.stp 2 (i1 := 6) (L1 := [some (.ref 0), some (.int what), some (.int 1), none, none, none, none]) (st1 := [.int 4, .int 1]) (s1 := s) rfl ?_
    refine UP.cI (M1 := m_X6_isBelow) (as := [.int 1, .int 4]) (rest := []) (T := F_isBelow s 1 4) rfl rfl (ux_isBelow s 1 4) ?_
    refine UP.spl (m_cmp .ne (F_isBelow s 1 4) 0) (bif m_cmp .eq (s 117 1) 0 then (let z9 := F_toldTrip s ; let v10 := (if 24 < (z9 117 3) then 24 else (z9 117 3)); let z11 := itr (B_cwrite_1_32 what) 0 ((v10).toNatClampNeg) z9; (v10, z11)) else (let z14 := F_find s 1; z14)) (((-2), s)) (by first | (dsimp only [F_cwrite_1]; done) | (dsimp only; done) | rfl) (fun cc => ?_) (fun cc => ?_)
    · skip
      refine UP.ifT rfl cc ?_
      refine UP.stp 3 (i1 := 13) (L1 := [some (.ref 0), some (.int what), some (.int 1), none, none, none, none]) (st1 := [.int 1, .ref 9]) (s1 := s) rfl ?_
      refine UP.aald (e := 1) (r := 117) rfl rfl (by omega) rfl ?_
      refine UP.stp 3 (i1 := 17) (L1 := [some (.ref 0), some (.int what), some (.int 1), some (.ref 117), none, none, none]) (st1 := [.int (s 117 1)]) (s1 := s) rfl ?_
      refine UP.spl (m_cmp .eq (s 117 1) 0) (let z9 := F_toldTrip s ; let v10 := (if 24 < (z9 117 3) then 24 else (z9 117 3)); let z11 := itr (B_cwrite_1_32 what) 0 ((v10).toNatClampNeg) z9; (v10, z11)) (let z14 := F_find s 1; z14) (by first | (dsimp only [F_cwrite_1]; done) | (dsimp only; done) | rfl) (fun cc => ?_) (fun cc => ?_)
      · skip
        refine UP.ifT rfl cc ?_
        refine UP.stp 1 (i1 := 23) (L1 := [some (.ref 0), some (.int what), some (.int 1), some (.ref 117), none, none, none]) (st1 := [.ref 0]) (s1 := s) rfl ?_
        refine UP.cR (M1 := m_X6_toldTrip) (as := [.ref 0]) (rest := []) (T := F_toldTrip s ) (a := 15) rfl rfl (ux_toldTrip s ) (fun z9 e9 => ?_)
        refine UP.stp 5 (i1 := 29) (L1 := [some (.ref 0), some (.int what), some (.int 1), some (.ref 117), some (.ref 15), none, none]) (st1 := [.int (if 24 < (z9 117 3) then 24 else (z9 117 3))]) (s1 := z9) rfl ?_
        refine nm (G := fun v10 => UP m_X6_write 29 [some (.ref 0), some (.int what), some (.int 1), some (.ref 117), some (.ref 15), none, none] [.int v10] z9 (Qb (let z9 := F_toldTrip s ; let v10 := (if 24 < (z9 117 3) then 24 else (z9 117 3)); let z11 := itr (B_cwrite_1_32 what) 0 ((v10).toNatClampNeg) z9; (v10, z11)))) (if 24 < (z9 117 3) then 24 else (z9 117 3)) (fun v10 e10 => ?_)
        refine UP.stp 3 (i1 := 32) (L1 := [some (.ref 0), some (.int what), some (.int 1), some (.ref 117), some (.ref 15), some (.int v10), some (.int 0)]) (st1 := []) (s1 := z9) rfl ?_
        refine lp (fun (i11 : Nat) (a11 : SG) => ∀ (u11_0 : Option Value) (u11_2 : Option Value), UP m_X6_write 32 [u11_0, some (.int what), u11_2, some (.ref 117), some (.ref 15), some (.int v10), some (.int (Int32.ofNat i11))] [] a11 (Qb (let z9 := F_toldTrip s ; let v10 := (if 24 < (z9 117 3) then 24 else (z9 117 3)); let z11 := itr (B_cwrite_1_32 what) 0 ((v10).toNatClampNeg) z9; (v10, z11)))) (fun (_ : Nat) (a11 : SG) => Fr W_cwrite_1 z9 a11) (B_cwrite_1_32 what) ((v10).toNatClampNeg) (fun i11 a11 hi11 g11 => g11.tr (fr_B_cwrite_1_32 what i11 a11 )) (fun i11 a11 hi11 g11 kk => ?_) ((v10).toNatClampNeg) (0) z9 (by  omega) (Fr.rf _ _) (fun z11 e11 g11 => ?_) (some (.ref 0)) (some (.int 1))
        · skip
          intro u11_0 u11_2
          have hbi11 := cl_lt (v10)
          refine UP.stp 2 (i1 := 34) (L1 := [u11_0, some (.int what), u11_2, some (.ref 117), some (.ref 15), some (.int v10), some (.int (Int32.ofNat i11))]) (st1 := [.int v10, .int (Int32.ofNat i11)]) (s1 := a11) rfl ?_
          refine UP.icF rfl (ge_F hi11) ?_
          refine UP.stp 3 (i1 := 38) (L1 := [u11_0, some (.int what), u11_2, some (.ref 117), some (.ref 15), some (.int v10), some (.int (Int32.ofNat i11))]) (st1 := [.int what, .int (Int32.ofNat i11), .ref 117]) (s1 := a11) rfl ?_
          refine mrg (m_cmp .ne what 0) (a11 17 i11) (a11 16 i11) (fun v12 : Int32 => UP m_X6_write 48 [u11_0, some (.int what), u11_2, some (.ref 117), some (.ref 15), some (.int v10), some (.int (Int32.ofNat i11))] [.int v12, .int (Int32.ofNat i11), .ref 117] a11 (Qb (let z9 := F_toldTrip s ; let v10 := (if 24 < (z9 117 3) then 24 else (z9 117 3)); let z11 := itr (B_cwrite_1_32 what) 0 ((v10).toNatClampNeg) z9; (v10, z11)))) (fun cc kk => ?_) (fun cc kk => ?_) (fun v12 e12 => ?_)
          · skip
            refine UP.ifT rfl cc ?_
            refine UP.stp 3 (i1 := 47) (L1 := [u11_0, some (.int what), u11_2, some (.ref 117), some (.ref 15), some (.int v10), some (.int (Int32.ofNat i11))]) (st1 := [.int (Int32.ofNat i11), .ref 17, .int (Int32.ofNat i11), .ref 117]) (s1 := a11) rfl ?_
            refine UP.ald (e := i11) rfl rfl (by omega) ?_
            show UP m_X6_write 48 [u11_0, some (.int what), u11_2, some (.ref 117), some (.ref 15), some (.int v10), some (.int (Int32.ofNat i11))] [.int (a11 17 i11), .int (Int32.ofNat i11), .ref 117] a11 (Qb (let z9 := F_toldTrip s ; let v10 := (if 24 < (z9 117 3) then 24 else (z9 117 3)); let z11 := itr (B_cwrite_1_32 what) 0 ((v10).toNatClampNeg) z9; (v10, z11)))
            exact kk
          · skip
            refine UP.ifF rfl cc ?_
            refine UP.stp 3 (i1 := 42) (L1 := [u11_0, some (.int what), u11_2, some (.ref 117), some (.ref 15), some (.int v10), some (.int (Int32.ofNat i11))]) (st1 := [.int (Int32.ofNat i11), .ref 16, .int (Int32.ofNat i11), .ref 117]) (s1 := a11) rfl ?_
            refine UP.ald (e := i11) rfl rfl (by omega) ?_
            show UP m_X6_write 43 [u11_0, some (.int what), u11_2, some (.ref 117), some (.ref 15), some (.int v10), some (.int (Int32.ofNat i11))] [.int (a11 16 i11), .int (Int32.ofNat i11), .ref 117] a11 (Qb (let z9 := F_toldTrip s ; let v10 := (if 24 < (z9 117 3) then 24 else (z9 117 3)); let z11 := itr (B_cwrite_1_32 what) 0 ((v10).toNatClampNeg) z9; (v10, z11)))
            refine UP.stp 1 (i1 := 48) (L1 := [u11_0, some (.int what), u11_2, some (.ref 117), some (.ref 15), some (.int v10), some (.int (Int32.ofNat i11))]) (st1 := [.int (a11 16 i11), .int (Int32.ofNat i11), .ref 117]) (s1 := a11) rfl ?_
            exact kk
          refine UP.cV (M1 := m_X3_keep) (as := [.ref 117, .int (Int32.ofNat i11), .int v12]) (rest := []) (T := F_ckeep_1 a11 (Int32.ofNat i11) v12) rfl rfl (ux_ckeep_1 a11 (Int32.ofNat i11) v12) (fun z13 e13 => ?_)
          refine UP.stp 2 (i1 := 32) (L1 := [u11_0, some (.int what), u11_2, some (.ref 117), some (.ref 15), some (.int v10), some (.int ((Int32.ofNat i11) + 1))]) (st1 := []) (s1 := z13) rfl ?_
          subst e13 e12
          rw [ofn_s]
          try dsimp only [B_cwrite_1_32] at kk
          exact kk _ _
        intro u11_0 u11_2
        refine UP.stp 2 (i1 := 34) (L1 := [u11_0, some (.int what), u11_2, some (.ref 117), some (.ref 15), some (.int v10), some (.int (Int32.ofNat ((v10).toNatClampNeg)))]) (st1 := [.int v10, .int (Int32.ofNat ((v10).toNatClampNeg))]) (s1 := z11) rfl ?_
        refine UP.icT rfl (ge_T _) ?_
        refine UP.stp 1 (i1 := 52) (L1 := [u11_0, some (.int what), u11_2, some (.ref 117), some (.ref 15), some (.int v10), some (.int (Int32.ofNat ((v10).toNatClampNeg)))]) (st1 := [.int v10]) (s1 := z11) rfl ?_
        exact UP.ret (r := some (.int v10)) rfl ⟨by subst e11 e10 e9; first | (dsimp only [F_cwrite_1]; done) | (dsimp only; done) | rfl, by subst e11 e10 e9; first | (dsimp only [F_cwrite_1]; done) | (dsimp only; done) | rfl⟩
      · skip
        refine UP.ifF rfl cc ?_
        refine UP.stp 2 (i1 := 20) (L1 := [some (.ref 0), some (.int what), some (.int 1), some (.ref 117), none, none, none]) (st1 := [.int 1, .ref 0]) (s1 := s) rfl ?_
        refine UP.cB (M1 := m_X6_find) (as := [.ref 0, .int 1]) (rest := []) (T := F_find s 1) rfl rfl (ux_find s 1) (fun z14 e14 => ?_)
        exact UP.ret (r := some (.int z14.1)) rfl ⟨by subst e14; first | (dsimp only [F_cwrite_1]; done) | (dsimp only; done) | rfl, by subst e14; first | (dsimp only [F_cwrite_1]; done) | (dsimp only; done) | rfl⟩
    · skip
      refine UP.ifF rfl cc ?_
      refine UP.stp 1 (i1 := 9) (L1 := [some (.ref 0), some (.int what), some (.int 1), none, none, none, none]) (st1 := [.int (-2)]) (s1 := s) rfl ?_
      exact UP.ret (r := some (.int (-2))) rfl ⟨by first | (dsimp only [F_cwrite_1]; done) | (dsimp only; done) | rfl, by first | (dsimp only [F_cwrite_1]; done) | (dsimp only; done) | rfl⟩
end
section
def W_hasRange_1 : List (Nat × Nat × Option Nat) := []
def F_hasRange_1 (s : SG) (f : Int32) (m : Int32) : Int32 := let v3 := bif m_cmp .lt f 0 then (0 : Int32) else (bif m_cmp .lt m 0 then (0 : Int32) else (bif m_cmp .gt f ((s 117 3) - m) then (0 : Int32) else (1 : Int32))); v3
set_option maxRecDepth 20000 in
set_option maxHeartbeats 200000 in
theorem ux_hasRange_1 (s : SG) (f : Int32) (m : Int32)  : UP m_X3_hasRange 0 (m_ent 3 [.ref 117, .int f, .int m]) [] s (Qi s (F_hasRange_1 s f m)) := by
  refine UP.stp 1 (i1 := 1) (L1 := [some (.ref 117), some (.int f), some (.int m)]) (st1 := [.int f]) (s1 := s) rfl ?_
  refine mrg (m_cmp .lt f 0) (0 : Int32) (bif m_cmp .lt m 0 then (0 : Int32) else (bif m_cmp .gt f ((s 117 3) - m) then (0 : Int32) else (1 : Int32))) (fun v3 : Int32 => UP m_X3_hasRange 13 [some (.ref 117), some (.int f), some (.int m)] [.int v3] s (Qi s (F_hasRange_1 s f m))) (fun cc kk => ?_) (fun cc kk => ?_) (fun v3 e3 => ?_)
  · skip
    refine UP.ifT rfl cc ?_
    refine UP.stp 1 (i1 := 13) (L1 := [some (.ref 117), some (.int f), some (.int m)]) (st1 := [.int 0]) (s1 := s) rfl ?_
    exact kk
  · skip
    refine UP.ifF rfl cc ?_
    refine UP.stp 1 (i1 := 3) (L1 := [some (.ref 117), some (.int f), some (.int m)]) (st1 := [.int m]) (s1 := s) rfl ?_
    refine mrg (m_cmp .lt m 0) (0 : Int32) (bif m_cmp .gt f ((s 117 3) - m) then (0 : Int32) else (1 : Int32)) (fun v2 : Int32 => UP m_X3_hasRange 13 [some (.ref 117), some (.int f), some (.int m)] [.int v2] s (Qi s (F_hasRange_1 s f m))) (fun cc kk => ?_) (fun cc kk => ?_) (fun v2 e2 => ?_)
    · skip
      refine UP.ifT rfl cc ?_
      refine UP.stp 1 (i1 := 13) (L1 := [some (.ref 117), some (.int f), some (.int m)]) (st1 := [.int 0]) (s1 := s) rfl ?_
      exact kk
    · skip
      refine UP.ifF rfl cc ?_
      refine UP.stp 5 (i1 := 9) (L1 := [some (.ref 117), some (.int f), some (.int m)]) (st1 := [.int ((s 117 3) - m), .int f]) (s1 := s) rfl ?_
      refine mrg (m_cmp .gt f ((s 117 3) - m)) (0 : Int32) (1 : Int32) (fun v1 : Int32 => UP m_X3_hasRange 13 [some (.ref 117), some (.int f), some (.int m)] [.int v1] s (Qi s (F_hasRange_1 s f m))) (fun cc kk => ?_) (fun cc kk => ?_) (fun v1 e1 => ?_)
      · skip
        refine UP.icT rfl cc ?_
        refine UP.stp 1 (i1 := 13) (L1 := [some (.ref 117), some (.int f), some (.int m)]) (st1 := [.int 0]) (s1 := s) rfl ?_
        exact kk
      · skip
        refine UP.icF rfl cc ?_
        refine UP.stp 2 (i1 := 13) (L1 := [some (.ref 117), some (.int f), some (.int m)]) (st1 := [.int 1]) (s1 := s) rfl ?_
        exact kk
      subst e1
      exact kk
    subst e2
    exact kk
  exact UP.ret (r := some (.int v3)) rfl ⟨by subst e3; first | (dsimp only [F_hasRange_1]; done) | (dsimp only; done) | rfl, by subst e3; first | (dsimp only [F_hasRange_1]; done) | (dsimp only; done) | rfl⟩
def W_begin_2 : List (Nat × Nat × Option Nat) := [(119, 119, none), (120, 120, none), (0, 0, some 4)]
def F_begin_2 (s : SG) (f : Int32) (n : Int32) : SG := let z1 := fil s 120 60 0; (uset (uset (uset z1 119 1 0) 119 2 f) 119 3 n)
set_option maxRecDepth 20000 in
set_option maxHeartbeats 200000 in
theorem fr_begin_2 (s : SG) (f : Int32) (n : Int32)  : Fr W_begin_2 s (F_begin_2 s f n) := by dsimp only [F_begin_2]; exact (let z1 : SG := fil s 120 60 0; (Fr.uset (s1 := (uset (uset z1 119 1 0) 119 2 f)) (a := 119) (j := 3) (x := n) (by rfl) (Fr.uset (s1 := (uset z1 119 1 0)) (a := 119) (j := 2) (x := f) (by rfl) (Fr.uset (s1 := z1) (a := 119) (j := 1) (x := 0) (by rfl) (Fr.fil (by rfl) (Fr.rf _ _))))))
set_option maxRecDepth 20000 in
set_option maxHeartbeats 200000 in
theorem ux_begin_2 (s : SG) (f : Int32) (n : Int32)  : UP m_X3_begin 0 (m_ent 3 [.ref 119, .int f, .int n]) [] s (Qv (F_begin_2 s f n)) := by
  refine UP.stp 3 (i1 := 3) (L1 := [some (.ref 119), some (.int f), some (.int n)]) (st1 := [.int 0, .ref 120]) (s1 := s) rfl ?_
  refine UP.cV (M1 := m_J7_fill_53178) (as := [.ref 120, .int 0]) (rest := []) (T := fil s 120 60 0) rfl rfl (ux_fill s 120 0 60 rfl (by decide)) (fun z1 e1 => ?_)
  refine UP.stp 9 (i1 := 13) (L1 := [some (.ref 119), some (.int f), some (.int n)]) (st1 := []) (s1 := (uset (uset (uset z1 119 1 0) 119 2 f) 119 3 n)) rfl ?_
  exact UP.ret (r := none) rfl ⟨by subst e1; first | (dsimp only [F_begin_2]; done) | (dsimp only; done) | rfl, by subst e1; first | (dsimp only [F_begin_2]; done) | (dsimp only; done) | rfl⟩
def W_findingOf_2 : List (Nat × Nat × Option Nat) := []
def F_findingOf_2 (s : SG) (f : Int32) (i : Int32) : Int32 := bif m_cmp .eq (s 119 1) 0 then (bif m_cmp .eq (s 119 2) f then (let v6 := bif m_cmp .eq (F_isBelow s i (s 119 3)) 0 then (2 : Int32) else (0 : Int32); v6) else (3)) else (1)
set_option maxRecDepth 20000 in
set_option maxHeartbeats 200000 in
theorem ux_findingOf_2 (s : SG) (f : Int32) (i : Int32)  : UP m_X3_findingOf 0 (m_ent 3 [.ref 119, .int f, .int i]) [] s (Qi s (F_findingOf_2 s f i)) := by
  refine UP.stp 2 (i1 := 2) (L1 := [some (.ref 119), some (.int f), some (.int i)]) (st1 := [.int (s 119 1)]) (s1 := s) rfl ?_
  refine UP.spl (m_cmp .eq (s 119 1) 0) (bif m_cmp .eq (s 119 2) f then (let v6 := bif m_cmp .eq (F_isBelow s i (s 119 3)) 0 then (2 : Int32) else (0 : Int32); v6) else (3)) (1) (by first | (dsimp only [F_findingOf_2]; done) | (dsimp only; done) | rfl) (fun cc => ?_) (fun cc => ?_)
  · skip
    refine UP.ifT rfl cc ?_
    refine UP.stp 3 (i1 := 8) (L1 := [some (.ref 119), some (.int f), some (.int i)]) (st1 := [.int f, .int (s 119 2)]) (s1 := s) rfl ?_
    refine UP.spl (m_cmp .eq (s 119 2) f) (let v6 := bif m_cmp .eq (F_isBelow s i (s 119 3)) 0 then (2 : Int32) else (0 : Int32); v6) (3) (by first | (dsimp only [F_findingOf_2]; done) | (dsimp only; done) | rfl) (fun cc => ?_) (fun cc => ?_)
    · skip
      refine UP.icT rfl cc ?_
      refine UP.stp 3 (i1 := 14) (L1 := [some (.ref 119), some (.int f), some (.int i)]) (st1 := [.int (s 119 3), .int i]) (s1 := s) rfl ?_
      refine UP.cI (M1 := m_X6_isBelow) (as := [.int i, .int (s 119 3)]) (rest := []) (T := F_isBelow s i (s 119 3)) rfl rfl (ux_isBelow s i (s 119 3)) ?_
      refine mrg (m_cmp .eq (F_isBelow s i (s 119 3)) 0) (2 : Int32) (0 : Int32) (fun v6 : Int32 => UP m_X3_findingOf 19 [some (.ref 119), some (.int f), some (.int i)] [.int v6] s (Qi s (let v6 := bif m_cmp .eq (F_isBelow s i (s 119 3)) 0 then (2 : Int32) else (0 : Int32); v6))) (fun cc kk => ?_) (fun cc kk => ?_) (fun v6 e6 => ?_)
      · skip
        refine UP.ifT rfl cc ?_
        refine UP.stp 1 (i1 := 19) (L1 := [some (.ref 119), some (.int f), some (.int i)]) (st1 := [.int 2]) (s1 := s) rfl ?_
        exact kk
      · skip
        refine UP.ifF rfl cc ?_
        refine UP.stp 2 (i1 := 19) (L1 := [some (.ref 119), some (.int f), some (.int i)]) (st1 := [.int 0]) (s1 := s) rfl ?_
        exact kk
      exact UP.ret (r := some (.int v6)) rfl ⟨by subst e6; first | (dsimp only [F_findingOf_2]; done) | (dsimp only; done) | rfl, by subst e6; first | (dsimp only [F_findingOf_2]; done) | (dsimp only; done) | rfl⟩
    · skip
      refine UP.icF rfl cc ?_
      refine UP.stp 1 (i1 := 10) (L1 := [some (.ref 119), some (.int f), some (.int i)]) (st1 := [.int 3]) (s1 := s) rfl ?_
      exact UP.ret (r := some (.int 3)) rfl ⟨by first | (dsimp only [F_findingOf_2]; done) | (dsimp only; done) | rfl, by first | (dsimp only [F_findingOf_2]; done) | (dsimp only; done) | rfl⟩
  · skip
    refine UP.ifF rfl cc ?_
    refine UP.stp 1 (i1 := 4) (L1 := [some (.ref 119), some (.int f), some (.int i)]) (st1 := [.int 1]) (s1 := s) rfl ?_
    exact UP.ret (r := some (.int 1)) rfl ⟨by first | (dsimp only [F_findingOf_2]; done) | (dsimp only; done) | rfl, by first | (dsimp only [F_findingOf_2]; done) | (dsimp only; done) | rfl⟩
def W_ckeep_2 : List (Nat × Nat × Option Nat) := [(119, 119, none), (120, 120, none), (0, 0, some 4)]
def F_ckeep_2 (s : SG) (i : Int32) (v : Int32) : SG := let v2 := bif m_cmp .ne (s 119 2) 0 then (bif m_cmp .ne (s 119 2) 1 then v else v.toInt16.toInt32) else v.toInt8.toInt32; (uset s 120 i.toNatClampNeg v2)
set_option maxRecDepth 20000 in
set_option maxHeartbeats 200000 in
theorem fr_ckeep_2 (s : SG) (i : Int32) (v : Int32)  : Fr W_ckeep_2 s (F_ckeep_2 s i v) := by dsimp only [F_ckeep_2]; exact (let v2 : Int32 := bif m_cmp .ne (s 119 2) 0 then (bif m_cmp .ne (s 119 2) 1 then v else v.toInt16.toInt32) else v.toInt8.toInt32; (Fr.uset (s1 := s) (a := 120) (j := i.toNatClampNeg) (x := v2) (by rfl) (Fr.rf _ _)))
set_option maxRecDepth 20000 in
set_option maxHeartbeats 200000 in
theorem ux_ckeep_2 (s : SG) (i : Int32) (v : Int32)  : UP m_X3_keep 0 (m_ent 3 [.ref 119, .int i, .int v]) [] s (Qv (F_ckeep_2 s i v)) := by
  refine UP.stp 5 (i1 := 5) (L1 := [some (.ref 119), some (.int i), some (.int v)]) (st1 := [.int (s 119 2), .int i, .ref 120]) (s1 := s) rfl ?_
  refine mrg (m_cmp .ne (s 119 2) 0) (bif m_cmp .ne (s 119 2) 1 then v else v.toInt16.toInt32) v.toInt8.toInt32 (fun v2 : Int32 => UP m_X3_keep 17 [some (.ref 119), some (.int i), some (.int v)] [.int v2, .int i, .ref 120] s (Qv (F_ckeep_2 s i v))) (fun cc kk => ?_) (fun cc kk => ?_) (fun v2 e2 => ?_)
  · skip
    refine UP.ifT rfl cc ?_
    refine UP.stp 3 (i1 := 12) (L1 := [some (.ref 119), some (.int i), some (.int v)]) (st1 := [.int 1, .int (s 119 2), .int i, .ref 120]) (s1 := s) rfl ?_
    refine mrg (m_cmp .ne (s 119 2) 1) v v.toInt16.toInt32 (fun v1 : Int32 => UP m_X3_keep 17 [some (.ref 119), some (.int i), some (.int v)] [.int v1, .int i, .ref 120] s (Qv (F_ckeep_2 s i v))) (fun cc kk => ?_) (fun cc kk => ?_) (fun v1 e1 => ?_)
    · skip
      refine UP.icT rfl cc ?_
      refine UP.stp 1 (i1 := 17) (L1 := [some (.ref 119), some (.int i), some (.int v)]) (st1 := [.int v, .int i, .ref 120]) (s1 := s) rfl ?_
      exact kk
    · skip
      refine UP.icF rfl cc ?_
      refine UP.stp 3 (i1 := 17) (L1 := [some (.ref 119), some (.int i), some (.int v)]) (st1 := [.int v.toInt16.toInt32, .int i, .ref 120]) (s1 := s) rfl ?_
      exact kk
    subst e1
    exact kk
  · skip
    refine UP.ifF rfl cc ?_
    refine UP.stp 3 (i1 := 17) (L1 := [some (.ref 119), some (.int i), some (.int v)]) (st1 := [.int v.toInt8.toInt32, .int i, .ref 120]) (s1 := s) rfl ?_
    exact kk
  refine UP.stp 1 (i1 := 18) (L1 := [some (.ref 119), some (.int i), some (.int v)]) (st1 := []) (s1 := (uset s 120 i.toNatClampNeg v2)) rfl ?_
  exact UP.ret (r := none) rfl ⟨by subst e2; first | (dsimp only [F_ckeep_2]; done) | (dsimp only; done) | rfl, by subst e2; first | (dsimp only [F_ckeep_2]; done) | (dsimp only; done) | rfl⟩
end
section
def W_csheet_2 : List (Nat × Nat × Option Nat) := [(119, 119, none), (120, 120, none), (0, 0, some 4)]
def F_csheet_2 (s : SG) (form : Int32) (n : Int32) : Int32 × SG := bif m_cmp .eq (F_isBelow s 2 4) 0 then (((-2), s)) else (bif m_cmp .eq (F_isBelow s form 3) 0 then (((-2), s)) else (bif m_cmp .le n 60 then (bif m_cmp .ge n 0 then (let z11 := F_begin_2 s form n; (n, z11)) else (let z12 := F_find s 5; z12)) else (((-2), s))))
set_option maxRecDepth 20000 in
set_option maxHeartbeats 200000 in
theorem fr_csheet_2 (s : SG) (form : Int32) (n : Int32)  : Fr W_csheet_2 s (F_csheet_2 s form n).2 := by dsimp only [F_csheet_2]; exact (Fr.bifp (b := m_cmp .eq (F_isBelow s 2 4) 0) (x := ((-2), s)) (y := bif m_cmp .eq (F_isBelow s form 3) 0 then (((-2), s)) else (bif m_cmp .le n 60 then (bif m_cmp .ge n 0 then (let z11 := F_begin_2 s form n; (n, z11)) else (let z12 := F_find s 5; z12)) else (((-2), s)))) (fun x : Int32 × SG => x.2) (by (try dsimp only); exact (Fr.rf _ _)) (by (try dsimp only); exact (Fr.bifp (b := m_cmp .eq (F_isBelow s form 3) 0) (x := ((-2), s)) (y := bif m_cmp .le n 60 then (bif m_cmp .ge n 0 then (let z11 := F_begin_2 s form n; (n, z11)) else (let z12 := F_find s 5; z12)) else (((-2), s))) (fun x : Int32 × SG => x.2) (by (try dsimp only); exact (Fr.rf _ _)) (by (try dsimp only); exact (Fr.bifp (b := m_cmp .le n 60) (x := bif m_cmp .ge n 0 then (let z11 := F_begin_2 s form n; (n, z11)) else (let z12 := F_find s 5; z12)) (y := ((-2), s)) (fun x : Int32 × SG => x.2) (by (try dsimp only); exact (Fr.bifp (b := m_cmp .ge n 0) (x := let z11 := F_begin_2 s form n; (n, z11)) (y := let z12 := F_find s 5; z12) (fun x : Int32 × SG => x.2) (by (try dsimp only); exact (Fr.tr (s1 := s) (Fr.rf _ _) (Fr.wk (W2 := W_csheet_2) (fr_begin_2 s form n) (by rfl)))) (by (try dsimp only); exact (Fr.tr (s1 := s) (Fr.rf _ _) (Fr.wk (W2 := W_csheet_2) (fr_find s 5) (by rfl)))))) (by (try dsimp only); exact (Fr.rf _ _)))))))
set_option maxRecDepth 20000 in
set_option maxHeartbeats 200000 in
theorem ux_csheet_2 (s : SG) (form : Int32) (n : Int32)  : UP m_X6_sheet 0 (m_ent 4 [.ref 0, .int 2, .int form, .int n]) [] s (Qb (F_csheet_2 s form n)) := by
  refine UP.stp 2 (i1 := 2) (L1 := [some (.ref 0), some (.int 2), some (.int form), some (.int n)]) (st1 := [.int 4, .int 2]) (s1 := s) rfl ?_
  refine UP.cI (M1 := m_X6_isBelow) (as := [.int 2, .int 4]) (rest := []) (T := F_isBelow s 2 4) rfl rfl (ux_isBelow s 2 4) ?_
  refine UP.spl (m_cmp .eq (F_isBelow s 2 4) 0) (((-2), s)) (bif m_cmp .eq (F_isBelow s form 3) 0 then (((-2), s)) else (bif m_cmp .le n 60 then (bif m_cmp .ge n 0 then (let z11 := F_begin_2 s form n; (n, z11)) else (let z12 := F_find s 5; z12)) else (((-2), s)))) (by first | (dsimp only [F_csheet_2]; done) | (dsimp only; done) | rfl) (fun cc => ?_) (fun cc => ?_)
  · skip
    refine UP.ifT rfl cc ?_
    refine UP.stp 1 (i1 := 12) (L1 := [some (.ref 0), some (.int 2), some (.int form), some (.int n)]) (st1 := [.int (-2)]) (s1 := s) rfl ?_
    exact UP.ret (r := some (.int (-2))) rfl ⟨by first | (dsimp only [F_csheet_2]; done) | (dsimp only; done) | rfl, by first | (dsimp only [F_csheet_2]; done) | (dsimp only; done) | rfl⟩
  · skip
    refine UP.ifF rfl cc ?_
    refine UP.stp 2 (i1 := 6) (L1 := [some (.ref 0), some (.int 2), some (.int form), some (.int n)]) (st1 := [.int 3, .int form]) (s1 := s) rfl ?_
    refine UP.cI (M1 := m_X6_isBelow) (as := [.int form, .int 3]) (rest := []) (T := F_isBelow s form 3) rfl rfl (ux_isBelow s form 3) ?_
    refine UP.spl (m_cmp .eq (F_isBelow s form 3) 0) (((-2), s)) (bif m_cmp .le n 60 then (bif m_cmp .ge n 0 then (let z11 := F_begin_2 s form n; (n, z11)) else (let z12 := F_find s 5; z12)) else (((-2), s))) (by first | (dsimp only [F_csheet_2]; done) | (dsimp only; done) | rfl) (fun cc => ?_) (fun cc => ?_)
    · skip
      refine UP.ifT rfl cc ?_
      refine UP.stp 1 (i1 := 12) (L1 := [some (.ref 0), some (.int 2), some (.int form), some (.int n)]) (st1 := [.int (-2)]) (s1 := s) rfl ?_
      exact UP.ret (r := some (.int (-2))) rfl ⟨by first | (dsimp only [F_csheet_2]; done) | (dsimp only; done) | rfl, by first | (dsimp only [F_csheet_2]; done) | (dsimp only; done) | rfl⟩
    · skip
      refine UP.ifF rfl cc ?_
      refine UP.stp 2 (i1 := 10) (L1 := [some (.ref 0), some (.int 2), some (.int form), some (.int n)]) (st1 := [.int 60, .int n]) (s1 := s) rfl ?_
      refine UP.spl (m_cmp .le n 60) (bif m_cmp .ge n 0 then (let z11 := F_begin_2 s form n; (n, z11)) else (let z12 := F_find s 5; z12)) (((-2), s)) (by first | (dsimp only [F_csheet_2]; done) | (dsimp only; done) | rfl) (fun cc => ?_) (fun cc => ?_)
      · skip
        refine UP.icT rfl cc ?_
        refine UP.stp 1 (i1 := 14) (L1 := [some (.ref 0), some (.int 2), some (.int form), some (.int n)]) (st1 := [.int n]) (s1 := s) rfl ?_
        refine UP.spl (m_cmp .ge n 0) (let z11 := F_begin_2 s form n; (n, z11)) (let z12 := F_find s 5; z12) (by first | (dsimp only [F_csheet_2]; done) | (dsimp only; done) | rfl) (fun cc => ?_) (fun cc => ?_)
        · skip
          refine UP.ifT rfl cc ?_
          refine UP.stp 3 (i1 := 22) (L1 := [some (.ref 0), some (.int 2), some (.int form), some (.int n)]) (st1 := [.int 2, .ref 9]) (s1 := s) rfl ?_
          refine UP.aald (e := 2) (r := 119) rfl rfl (by omega) rfl ?_
          refine UP.stp 2 (i1 := 25) (L1 := [some (.ref 0), some (.int 2), some (.int form), some (.int n)]) (st1 := [.int n, .int form, .ref 119]) (s1 := s) rfl ?_
          refine UP.cV (M1 := m_X3_begin) (as := [.ref 119, .int form, .int n]) (rest := []) (T := F_begin_2 s form n) rfl rfl (ux_begin_2 s form n) (fun z11 e11 => ?_)
          refine UP.stp 1 (i1 := 27) (L1 := [some (.ref 0), some (.int 2), some (.int form), some (.int n)]) (st1 := [.int n]) (s1 := z11) rfl ?_
          exact UP.ret (r := some (.int n)) rfl ⟨by subst e11; first | (dsimp only [F_csheet_2]; done) | (dsimp only; done) | rfl, by subst e11; first | (dsimp only [F_csheet_2]; done) | (dsimp only; done) | rfl⟩
        · skip
          refine UP.ifF rfl cc ?_
          refine UP.stp 2 (i1 := 17) (L1 := [some (.ref 0), some (.int 2), some (.int form), some (.int n)]) (st1 := [.int 5, .ref 0]) (s1 := s) rfl ?_
          refine UP.cB (M1 := m_X6_find) (as := [.ref 0, .int 5]) (rest := []) (T := F_find s 5) rfl rfl (ux_find s 5) (fun z12 e12 => ?_)
          exact UP.ret (r := some (.int z12.1)) rfl ⟨by subst e12; first | (dsimp only [F_csheet_2]; done) | (dsimp only; done) | rfl, by subst e12; first | (dsimp only [F_csheet_2]; done) | (dsimp only; done) | rfl⟩
      · skip
        refine UP.icF rfl cc ?_
        refine UP.stp 1 (i1 := 12) (L1 := [some (.ref 0), some (.int 2), some (.int form), some (.int n)]) (st1 := [.int (-2)]) (s1 := s) rfl ?_
        exact UP.ret (r := some (.int (-2))) rfl ⟨by first | (dsimp only [F_csheet_2]; done) | (dsimp only; done) | rfl, by first | (dsimp only [F_csheet_2]; done) | (dsimp only; done) | rfl⟩
def W_close_2 : List (Nat × Nat × Option Nat) := [(119, 119, none), (120, 120, none), (0, 0, some 4)]
def F_close_2 (s : SG)  : Int32 × SG := bif m_cmp .ne (F_isBelow s 2 4) 0 then (bif m_cmp .eq (s 119 1) 0 then ((s 119 3, (uset s 119 1 1))) else (let z6 := F_find s 1; z6)) else (((-2), s))
set_option maxRecDepth 20000 in
set_option maxHeartbeats 200000 in
theorem fr_close_2 (s : SG)   : Fr W_close_2 s (F_close_2 s).2 := by dsimp only [F_close_2]; exact (Fr.bifp (b := m_cmp .ne (F_isBelow s 2 4) 0) (x := bif m_cmp .eq (s 119 1) 0 then ((s 119 3, (uset s 119 1 1))) else (let z6 := F_find s 1; z6)) (y := ((-2), s)) (fun x : Int32 × SG => x.2) (by (try dsimp only); exact (Fr.bifp (b := m_cmp .eq (s 119 1) 0) (x := (s 119 3, (uset s 119 1 1))) (y := let z6 := F_find s 1; z6) (fun x : Int32 × SG => x.2) (by (try dsimp only); exact (Fr.uset (s1 := s) (a := 119) (j := 1) (x := 1) (by rfl) (Fr.rf _ _))) (by (try dsimp only); exact (Fr.tr (s1 := s) (Fr.rf _ _) (Fr.wk (W2 := W_close_2) (fr_find s 1) (by rfl)))))) (by (try dsimp only); exact (Fr.rf _ _)))
set_option maxRecDepth 20000 in
set_option maxHeartbeats 200000 in
theorem ux_close_2 (s : SG)   : UP m_X6_lose 0 (m_ent 2 [.ref 0, .int 2]) [] s (Qb (F_close_2 s)) := by
  refine UP.stp 2 (i1 := 2) (L1 := [some (.ref 0), some (.int 2)]) (st1 := [.int 4, .int 2]) (s1 := s) rfl ?_
  refine UP.cI (M1 := m_X6_isBelow) (as := [.int 2, .int 4]) (rest := []) (T := F_isBelow s 2 4) rfl rfl (ux_isBelow s 2 4) ?_
  refine UP.spl (m_cmp .ne (F_isBelow s 2 4) 0) (bif m_cmp .eq (s 119 1) 0 then ((s 119 3, (uset s 119 1 1))) else (let z6 := F_find s 1; z6)) (((-2), s)) (by first | (dsimp only [F_close_2]; done) | (dsimp only; done) | rfl) (fun cc => ?_) (fun cc => ?_)
  · skip
    refine UP.ifT rfl cc ?_
    refine UP.stp 3 (i1 := 9) (L1 := [some (.ref 0), some (.int 2)]) (st1 := [.int 2, .ref 9]) (s1 := s) rfl ?_
    refine UP.aald (e := 2) (r := 119) rfl rfl (by omega) rfl ?_
    refine UP.stp 1 (i1 := 11) (L1 := [some (.ref 0), some (.int 2)]) (st1 := [.int (s 119 1)]) (s1 := s) rfl ?_
    refine UP.spl (m_cmp .eq (s 119 1) 0) ((s 119 3, (uset s 119 1 1))) (let z6 := F_find s 1; z6) (by first | (dsimp only [F_close_2]; done) | (dsimp only; done) | rfl) (fun cc => ?_) (fun cc => ?_)
    · skip
      refine UP.ifT rfl cc ?_
      refine UP.stp 3 (i1 := 19) (L1 := [some (.ref 0), some (.int 2)]) (st1 := [.int 2, .ref 9]) (s1 := s) rfl ?_
      refine UP.aald (e := 2) (r := 119) rfl rfl (by omega) rfl ?_
      refine UP.stp 5 (i1 := 25) (L1 := [some (.ref 0), some (.int 2)]) (st1 := [.int 2, .ref 9]) (s1 := (uset s 119 1 1)) rfl ?_
      refine UP.aald (e := 2) (r := 119) rfl rfl (by omega) rfl ?_
      refine UP.stp 1 (i1 := 27) (L1 := [some (.ref 0), some (.int 2)]) (st1 := [.int (s 119 3)]) (s1 := (uset s 119 1 1)) rfl ?_
      exact UP.ret (r := some (.int (s 119 3))) rfl ⟨by first | (dsimp only [F_close_2]; done) | (dsimp only; done) | rfl, by first | (dsimp only [F_close_2]; done) | (dsimp only; done) | rfl⟩
    · skip
      refine UP.ifF rfl cc ?_
      refine UP.stp 2 (i1 := 14) (L1 := [some (.ref 0), some (.int 2)]) (st1 := [.int 1, .ref 0]) (s1 := s) rfl ?_
      refine UP.cB (M1 := m_X6_find) (as := [.ref 0, .int 1]) (rest := []) (T := F_find s 1) rfl rfl (ux_find s 1) (fun z6 e6 => ?_)
      exact UP.ret (r := some (.int z6.1)) rfl ⟨by subst e6; first | (dsimp only [F_close_2]; done) | (dsimp only; done) | rfl, by subst e6; first | (dsimp only [F_close_2]; done) | (dsimp only; done) | rfl⟩
  · skip
    refine UP.ifF rfl cc ?_
    refine UP.stp 1 (i1 := 5) (L1 := [some (.ref 0), some (.int 2)]) (st1 := [.int (-2)]) (s1 := s) rfl ?_
    exact UP.ret (r := some (.int (-2))) rfl ⟨by first | (dsimp only [F_close_2]; done) | (dsimp only; done) | rfl, by first | (dsimp only [F_close_2]; done) | (dsimp only; done) | rfl⟩
end
section
def W_cput_2 : List (Nat × Nat × Option Nat) := [(119, 119, none), (120, 120, none), (0, 0, some 4)]
def F_cput_2 (s : SG) (form : Int32) (i : Int32) (v : Int32) : Int32 × SG := bif m_cmp .eq (F_isBelow s 2 4) 0 then (((-2), s)) else (bif m_cmp .ne (F_isBelow s form 3) 0 then (let v8 := F_findingOf_2 s form i; bif m_cmp .eq v8 0 then (let z11 := F_ckeep_2 s i v; (1, z11)) else (let z12 := F_find s v8; z12)) else (((-2), s)))
set_option maxRecDepth 20000 in
set_option maxHeartbeats 200000 in
theorem fr_cput_2 (s : SG) (form : Int32) (i : Int32) (v : Int32)  : Fr W_cput_2 s (F_cput_2 s form i v).2 := by dsimp only [F_cput_2]; exact (Fr.bifp (b := m_cmp .eq (F_isBelow s 2 4) 0) (x := ((-2), s)) (y := bif m_cmp .ne (F_isBelow s form 3) 0 then (let v8 := F_findingOf_2 s form i; bif m_cmp .eq v8 0 then (let z11 := F_ckeep_2 s i v; (1, z11)) else (let z12 := F_find s v8; z12)) else (((-2), s))) (fun x : Int32 × SG => x.2) (by (try dsimp only); exact (Fr.rf _ _)) (by (try dsimp only); exact (Fr.bifp (b := m_cmp .ne (F_isBelow s form 3) 0) (x := let v8 := F_findingOf_2 s form i; bif m_cmp .eq v8 0 then (let z11 := F_ckeep_2 s i v; (1, z11)) else (let z12 := F_find s v8; z12)) (y := ((-2), s)) (fun x : Int32 × SG => x.2) (by (try dsimp only); exact (let v8 : Int32 := F_findingOf_2 s form i; (Fr.bifp (b := m_cmp .eq v8 0) (x := let z11 := F_ckeep_2 s i v; (1, z11)) (y := let z12 := F_find s v8; z12) (fun x : Int32 × SG => x.2) (by (try dsimp only); exact (Fr.tr (s1 := s) (Fr.rf _ _) (Fr.wk (W2 := W_cput_2) (fr_ckeep_2 s i v) (by rfl)))) (by (try dsimp only); exact (Fr.tr (s1 := s) (Fr.rf _ _) (Fr.wk (W2 := W_cput_2) (fr_find s v8) (by rfl))))))) (by (try dsimp only); exact (Fr.rf _ _)))))
set_option maxRecDepth 20000 in
set_option maxHeartbeats 200000 in
theorem ux_cput_2 (s : SG) (form : Int32) (i : Int32) (v : Int32)  : UP m_X6_put 0 (m_ent 6 [.ref 0, .int 2, .int form, .int i, .int v]) [] s (Qb (F_cput_2 s form i v)) := by
  refine UP.stp 2 (i1 := 2) (L1 := [some (.ref 0), some (.int 2), some (.int form), some (.int i), some (.int v), none]) (st1 := [.int 4, .int 2]) (s1 := s) rfl ?_
  refine UP.cI (M1 := m_X6_isBelow) (as := [.int 2, .int 4]) (rest := []) (T := F_isBelow s 2 4) rfl rfl (ux_isBelow s 2 4) ?_
  refine UP.spl (m_cmp .eq (F_isBelow s 2 4) 0) (((-2), s)) (bif m_cmp .ne (F_isBelow s form 3) 0 then (let v8 := F_findingOf_2 s form i; bif m_cmp .eq v8 0 then (let z11 := F_ckeep_2 s i v; (1, z11)) else (let z12 := F_find s v8; z12)) else (((-2), s))) (by first | (dsimp only [F_cput_2]; done) | (dsimp only; done) | rfl) (fun cc => ?_) (fun cc => ?_)
  · skip
    refine UP.ifT rfl cc ?_
    refine UP.stp 1 (i1 := 9) (L1 := [some (.ref 0), some (.int 2), some (.int form), some (.int i), some (.int v), none]) (st1 := [.int (-2)]) (s1 := s) rfl ?_
    exact UP.ret (r := some (.int (-2))) rfl ⟨by first | (dsimp only [F_cput_2]; done) | (dsimp only; done) | rfl, by first | (dsimp only [F_cput_2]; done) | (dsimp only; done) | rfl⟩
  · skip
    refine UP.ifF rfl cc ?_
    refine UP.stp 2 (i1 := 6) (L1 := [some (.ref 0), some (.int 2), some (.int form), some (.int i), some (.int v), none]) (st1 := [.int 3, .int form]) (s1 := s) rfl ?_
    refine UP.cI (M1 := m_X6_isBelow) (as := [.int form, .int 3]) (rest := []) (T := F_isBelow s form 3) rfl rfl (ux_isBelow s form 3) ?_
    refine UP.spl (m_cmp .ne (F_isBelow s form 3) 0) (let v8 := F_findingOf_2 s form i; bif m_cmp .eq v8 0 then (let z11 := F_ckeep_2 s i v; (1, z11)) else (let z12 := F_find s v8; z12)) (((-2), s)) (by first | (dsimp only [F_cput_2]; done) | (dsimp only; done) | rfl) (fun cc => ?_) (fun cc => ?_)
    · skip
      refine UP.ifT rfl cc ?_
      refine UP.stp 3 (i1 := 13) (L1 := [some (.ref 0), some (.int 2), some (.int form), some (.int i), some (.int v), none]) (st1 := [.int 2, .ref 9]) (s1 := s) rfl ?_
      refine UP.aald (e := 2) (r := 119) rfl rfl (by omega) rfl ?_
      refine UP.stp 2 (i1 := 16) (L1 := [some (.ref 0), some (.int 2), some (.int form), some (.int i), some (.int v), none]) (st1 := [.int i, .int form, .ref 119]) (s1 := s) rfl ?_
      refine UP.cI (M1 := m_X3_findingOf) (as := [.ref 119, .int form, .int i]) (rest := []) (T := F_findingOf_2 s form i) rfl rfl (ux_findingOf_2 s form i) ?_
      refine nm (G := fun v8 => UP m_X6_put 17 [some (.ref 0), some (.int 2), some (.int form), some (.int i), some (.int v), none] [.int v8] s (Qb (let v8 := F_findingOf_2 s form i; bif m_cmp .eq v8 0 then (let z11 := F_ckeep_2 s i v; (1, z11)) else (let z12 := F_find s v8; z12)))) (F_findingOf_2 s form i) (fun v8 e8 => ?_)
      refine UP.stp 2 (i1 := 19) (L1 := [some (.ref 0), some (.int 2), some (.int form), some (.int i), some (.int v), some (.int v8)]) (st1 := [.int v8]) (s1 := s) rfl ?_
      refine UP.spl (m_cmp .eq v8 0) (let z11 := F_ckeep_2 s i v; (1, z11)) (let z12 := F_find s v8; z12) (by subst e8; first | (dsimp only [F_cput_2]; done) | (dsimp only; done) | rfl) (fun cc => ?_) (fun cc => ?_)
      · skip
        refine UP.ifT rfl cc ?_
        refine UP.stp 3 (i1 := 27) (L1 := [some (.ref 0), some (.int 2), some (.int form), some (.int i), some (.int v), some (.int v8)]) (st1 := [.int 2, .ref 9]) (s1 := s) rfl ?_
        refine UP.aald (e := 2) (r := 119) rfl rfl (by omega) rfl ?_
        refine UP.stp 2 (i1 := 30) (L1 := [some (.ref 0), some (.int 2), some (.int form), some (.int i), some (.int v), some (.int v8)]) (st1 := [.int v, .int i, .ref 119]) (s1 := s) rfl ?_
        refine UP.cV (M1 := m_X3_keep) (as := [.ref 119, .int i, .int v]) (rest := []) (T := F_ckeep_2 s i v) rfl rfl (ux_ckeep_2 s i v) (fun z11 e11 => ?_)
        refine UP.stp 1 (i1 := 32) (L1 := [some (.ref 0), some (.int 2), some (.int form), some (.int i), some (.int v), some (.int v8)]) (st1 := [.int 1]) (s1 := z11) rfl ?_
        exact UP.ret (r := some (.int 1)) rfl ⟨by subst e11 e8; first | (dsimp only [F_cput_2]; done) | (dsimp only; done) | rfl, by subst e11 e8; first | (dsimp only [F_cput_2]; done) | (dsimp only; done) | rfl⟩
      · skip
        refine UP.ifF rfl cc ?_
        refine UP.stp 2 (i1 := 22) (L1 := [some (.ref 0), some (.int 2), some (.int form), some (.int i), some (.int v), some (.int v8)]) (st1 := [.int v8, .ref 0]) (s1 := s) rfl ?_
        refine UP.cB (M1 := m_X6_find) (as := [.ref 0, .int v8]) (rest := []) (T := F_find s v8) rfl rfl (ux_find s v8) (fun z12 e12 => ?_)
        exact UP.ret (r := some (.int z12.1)) rfl ⟨by subst e12 e8; first | (dsimp only [F_cput_2]; done) | (dsimp only; done) | rfl, by subst e12 e8; first | (dsimp only [F_cput_2]; done) | (dsimp only; done) | rfl⟩
    · skip
      refine UP.ifF rfl cc ?_
      refine UP.stp 1 (i1 := 9) (L1 := [some (.ref 0), some (.int 2), some (.int form), some (.int i), some (.int v), none]) (st1 := [.int (-2)]) (s1 := s) rfl ?_
      exact UP.ret (r := some (.int (-2))) rfl ⟨by first | (dsimp only [F_cput_2]; done) | (dsimp only; done) | rfl, by first | (dsimp only [F_cput_2]; done) | (dsimp only; done) | rfl⟩
end
section
def W_cget_2 : List (Nat × Nat × Option Nat) := [(119, 119, none), (120, 120, none), (0, 0, some 4)]
def F_cget_2 (s : SG) (form : Int32) (i : Int32) : Int32 × SG := bif m_cmp .eq (F_isBelow s 2 4) 0 then (((-2147483648), s)) else (bif m_cmp .ne (F_isBelow s form 3) 0 then (let v8 := F_findingOf_2 s form i; bif m_cmp .eq v8 0 then ((s 120 i.toNatClampNeg, s)) else (((-2147483648), (uset s 0 4 v8)))) else (((-2147483648), s)))
set_option maxRecDepth 20000 in
set_option maxHeartbeats 200000 in
theorem fr_cget_2 (s : SG) (form : Int32) (i : Int32)  : Fr W_cget_2 s (F_cget_2 s form i).2 := by dsimp only [F_cget_2]; exact (Fr.bifp (b := m_cmp .eq (F_isBelow s 2 4) 0) (x := ((-2147483648), s)) (y := bif m_cmp .ne (F_isBelow s form 3) 0 then (let v8 := F_findingOf_2 s form i; bif m_cmp .eq v8 0 then ((s 120 i.toNatClampNeg, s)) else (((-2147483648), (uset s 0 4 v8)))) else (((-2147483648), s))) (fun x : Int32 × SG => x.2) (by (try dsimp only); exact (Fr.rf _ _)) (by (try dsimp only); exact (Fr.bifp (b := m_cmp .ne (F_isBelow s form 3) 0) (x := let v8 := F_findingOf_2 s form i; bif m_cmp .eq v8 0 then ((s 120 i.toNatClampNeg, s)) else (((-2147483648), (uset s 0 4 v8)))) (y := ((-2147483648), s)) (fun x : Int32 × SG => x.2) (by (try dsimp only); exact (let v8 : Int32 := F_findingOf_2 s form i; (Fr.bifp (b := m_cmp .eq v8 0) (x := (s 120 i.toNatClampNeg, s)) (y := ((-2147483648), (uset s 0 4 v8))) (fun x : Int32 × SG => x.2) (by (try dsimp only); exact (Fr.rf _ _)) (by (try dsimp only); exact (Fr.uset (s1 := s) (a := 0) (j := 4) (x := v8) (by rfl) (Fr.rf _ _)))))) (by (try dsimp only); exact (Fr.rf _ _)))))
set_option maxRecDepth 20000 in
set_option maxHeartbeats 200000 in
theorem ux_cget_2 (s : SG) (form : Int32) (i : Int32)  : UP m_X6_get 0 (m_ent 5 [.ref 0, .int 2, .int form, .int i]) [] s (Qb (F_cget_2 s form i)) := by
  refine UP.stp 2 (i1 := 2) (L1 := [some (.ref 0), some (.int 2), some (.int form), some (.int i), none]) (st1 := [.int 4, .int 2]) (s1 := s) rfl ?_
  refine UP.cI (M1 := m_X6_isBelow) (as := [.int 2, .int 4]) (rest := []) (T := F_isBelow s 2 4) rfl rfl (ux_isBelow s 2 4) ?_
  refine UP.spl (m_cmp .eq (F_isBelow s 2 4) 0) (((-2147483648), s)) (bif m_cmp .ne (F_isBelow s form 3) 0 then (let v8 := F_findingOf_2 s form i; bif m_cmp .eq v8 0 then ((s 120 i.toNatClampNeg, s)) else (((-2147483648), (uset s 0 4 v8)))) else (((-2147483648), s))) (by first | (dsimp only [F_cget_2]; done) | (dsimp only; done) | rfl) (fun cc => ?_) (fun cc => ?_)
  · skip
    refine UP.ifT rfl cc ?_
    refine UP.stp 1 (i1 := 9) (L1 := [some (.ref 0), some (.int 2), some (.int form), some (.int i), none]) (st1 := [.int (-2147483648)]) (s1 := s) rfl ?_
    exact UP.ret (r := some (.int (-2147483648))) rfl ⟨by first | (dsimp only [F_cget_2]; done) | (dsimp only; done) | rfl, by first | (dsimp only [F_cget_2]; done) | (dsimp only; done) | rfl⟩
  · skip
    refine UP.ifF rfl cc ?_
    refine UP.stp 2 (i1 := 6) (L1 := [some (.ref 0), some (.int 2), some (.int form), some (.int i), none]) (st1 := [.int 3, .int form]) (s1 := s) rfl ?_
    refine UP.cI (M1 := m_X6_isBelow) (as := [.int form, .int 3]) (rest := []) (T := F_isBelow s form 3) rfl rfl (ux_isBelow s form 3) ?_
    refine UP.spl (m_cmp .ne (F_isBelow s form 3) 0) (let v8 := F_findingOf_2 s form i; bif m_cmp .eq v8 0 then ((s 120 i.toNatClampNeg, s)) else (((-2147483648), (uset s 0 4 v8)))) (((-2147483648), s)) (by first | (dsimp only [F_cget_2]; done) | (dsimp only; done) | rfl) (fun cc => ?_) (fun cc => ?_)
    · skip
      refine UP.ifT rfl cc ?_
      refine UP.stp 3 (i1 := 13) (L1 := [some (.ref 0), some (.int 2), some (.int form), some (.int i), none]) (st1 := [.int 2, .ref 9]) (s1 := s) rfl ?_
      refine UP.aald (e := 2) (r := 119) rfl rfl (by omega) rfl ?_
      refine UP.stp 2 (i1 := 16) (L1 := [some (.ref 0), some (.int 2), some (.int form), some (.int i), none]) (st1 := [.int i, .int form, .ref 119]) (s1 := s) rfl ?_
      refine UP.cI (M1 := m_X3_findingOf) (as := [.ref 119, .int form, .int i]) (rest := []) (T := F_findingOf_2 s form i) rfl rfl (ux_findingOf_2 s form i) ?_
      refine nm (G := fun v8 => UP m_X6_get 17 [some (.ref 0), some (.int 2), some (.int form), some (.int i), none] [.int v8] s (Qb (let v8 := F_findingOf_2 s form i; bif m_cmp .eq v8 0 then ((s 120 i.toNatClampNeg, s)) else (((-2147483648), (uset s 0 4 v8)))))) (F_findingOf_2 s form i) (fun v8 e8 => ?_)
      refine UP.stp 2 (i1 := 19) (L1 := [some (.ref 0), some (.int 2), some (.int form), some (.int i), some (.int v8)]) (st1 := [.int v8]) (s1 := s) rfl ?_
      refine UP.spl (m_cmp .eq v8 0) ((s 120 i.toNatClampNeg, s)) (((-2147483648), (uset s 0 4 v8))) (by subst e8; first | (dsimp only [F_cget_2]; done) | (dsimp only; done) | rfl) (fun cc => ?_) (fun cc => ?_)
      · skip
        refine UP.ifT rfl cc ?_
        refine UP.stp 3 (i1 := 28) (L1 := [some (.ref 0), some (.int 2), some (.int form), some (.int i), some (.int v8)]) (st1 := [.int 2, .ref 9]) (s1 := s) rfl ?_
        refine UP.aald (e := 2) (r := 119) rfl rfl (by omega) rfl ?_
        refine UP.stp 3 (i1 := 32) (L1 := [some (.ref 0), some (.int 2), some (.int form), some (.int i), some (.int v8)]) (st1 := [.int (s 120 i.toNatClampNeg)]) (s1 := s) rfl ?_
        exact UP.ret (r := some (.int (s 120 i.toNatClampNeg))) rfl ⟨by subst e8; first | (dsimp only [F_cget_2]; done) | (dsimp only; done) | rfl, by subst e8; first | (dsimp only [F_cget_2]; done) | (dsimp only; done) | rfl⟩
      · skip
        refine UP.ifF rfl cc ?_
        refine UP.stp 4 (i1 := 24) (L1 := [some (.ref 0), some (.int 2), some (.int form), some (.int i), some (.int v8)]) (st1 := [.int (-2147483648)]) (s1 := (uset s 0 4 v8)) rfl ?_
        exact UP.ret (r := some (.int (-2147483648))) rfl ⟨by subst e8; first | (dsimp only [F_cget_2]; done) | (dsimp only; done) | rfl, by subst e8; first | (dsimp only [F_cget_2]; done) | (dsimp only; done) | rfl⟩
    · skip
      refine UP.ifF rfl cc ?_
      refine UP.stp 1 (i1 := 9) (L1 := [some (.ref 0), some (.int 2), some (.int form), some (.int i), none]) (st1 := [.int (-2147483648)]) (s1 := s) rfl ?_
      exact UP.ret (r := some (.int (-2147483648))) rfl ⟨by first | (dsimp only [F_cget_2]; done) | (dsimp only; done) | rfl, by first | (dsimp only [F_cget_2]; done) | (dsimp only; done) | rfl⟩
end
section
def W_cwrite_2 : List (Nat × Nat × Option Nat) := [(16, 20, none), (22, 45, none), (46, 52, none), (15, 15, some 8), (59, 63, none), (65, 88, none), (89, 95, none), (58, 58, some 8), (53, 57, none), (96, 108, none), (0, 0, some 12), (0, 0, some 13), (119, 119, none), (120, 120, none), (0, 0, some 4)]
def B_cwrite_2_32 (what : Int32) (i11 : Nat) (a11 : SG) : SG := let v12 := bif m_cmp .ne what 0 then a11 17 i11 else a11 16 i11; let z13 := F_ckeep_2 a11 (Int32.ofNat i11) v12; z13
set_option maxRecDepth 20000 in
set_option maxHeartbeats 200000 in
theorem fr_B_cwrite_2_32 (what : Int32) (i11 : Nat) (a11 : SG)   : Fr W_cwrite_2 a11 ((B_cwrite_2_32 what) i11 a11) := by dsimp only [B_cwrite_2_32]; exact (let v12 : Int32 := bif m_cmp .ne what 0 then a11 17 i11 else a11 16 i11; (Fr.tr (s1 := a11) (Fr.rf _ _) (Fr.wk (W2 := W_cwrite_2) (fr_ckeep_2 a11 (Int32.ofNat i11) v12) (by rfl))))
def F_cwrite_2 (s : SG) (what : Int32) : Int32 × SG := bif m_cmp .eq (F_isBelow s what 2) 0 then (((-2), s)) else (bif m_cmp .ne (F_isBelow s 2 4) 0 then (bif m_cmp .eq (s 119 1) 0 then (let z9 := F_toldTrip s ; let v10 := (if 24 < (z9 119 3) then 24 else (z9 119 3)); let z11 := itr (B_cwrite_2_32 what) 0 ((v10).toNatClampNeg) z9; (v10, z11)) else (let z14 := F_find s 1; z14)) else (((-2), s)))
set_option maxRecDepth 20000 in
set_option maxHeartbeats 200000 in
theorem fr_cwrite_2 (s : SG) (what : Int32)  : Fr W_cwrite_2 s (F_cwrite_2 s what).2 := by dsimp only [F_cwrite_2]; exact (Fr.bifp (b := m_cmp .eq (F_isBelow s what 2) 0) (x := ((-2), s)) (y := bif m_cmp .ne (F_isBelow s 2 4) 0 then (bif m_cmp .eq (s 119 1) 0 then (let z9 := F_toldTrip s ; let v10 := (if 24 < (z9 119 3) then 24 else (z9 119 3)); let z11 := itr (B_cwrite_2_32 what) 0 ((v10).toNatClampNeg) z9; (v10, z11)) else (let z14 := F_find s 1; z14)) else (((-2), s))) (fun x : Int32 × SG => x.2) (by (try dsimp only); exact (Fr.rf _ _)) (by (try dsimp only); exact (Fr.bifp (b := m_cmp .ne (F_isBelow s 2 4) 0) (x := bif m_cmp .eq (s 119 1) 0 then (let z9 := F_toldTrip s ; let v10 := (if 24 < (z9 119 3) then 24 else (z9 119 3)); let z11 := itr (B_cwrite_2_32 what) 0 ((v10).toNatClampNeg) z9; (v10, z11)) else (let z14 := F_find s 1; z14)) (y := ((-2), s)) (fun x : Int32 × SG => x.2) (by (try dsimp only); exact (Fr.bifp (b := m_cmp .eq (s 119 1) 0) (x := let z9 := F_toldTrip s ; let v10 := (if 24 < (z9 119 3) then 24 else (z9 119 3)); let z11 := itr (B_cwrite_2_32 what) 0 ((v10).toNatClampNeg) z9; (v10, z11)) (y := let z14 := F_find s 1; z14) (fun x : Int32 × SG => x.2) (by (try dsimp only); exact (let z9 : SG := F_toldTrip s ; (let v10 : Int32 := (if 24 < (z9 119 3) then 24 else (z9 119 3)); (Fr.itr (W := W_cwrite_2) (m := (fun x : SG => x)) (f := (B_cwrite_2_32 what)) (fun ii aa => Fr.wk (W2 := W_cwrite_2) (fr_B_cwrite_2_32 what ii aa ) (by rfl)) ((v10).toNatClampNeg) 0 z9 (Fr.tr (s1 := s) (Fr.rf _ _) (Fr.wk (W2 := W_cwrite_2) (fr_toldTrip s ) (by rfl))))))) (by (try dsimp only); exact (Fr.tr (s1 := s) (Fr.rf _ _) (Fr.wk (W2 := W_cwrite_2) (fr_find s 1) (by rfl)))))) (by (try dsimp only); exact (Fr.rf _ _)))))
set_option maxRecDepth 20000 in
set_option maxHeartbeats 200000 in
theorem ux_cwrite_2 (s : SG) (what : Int32)  : UP m_X6_write 0 (m_ent 7 [.ref 0, .int what, .int 2]) [] s (Qb (F_cwrite_2 s what)) := by
  refine UP.stp 2 (i1 := 2) (L1 := [some (.ref 0), some (.int what), some (.int 2), none, none, none, none]) (st1 := [.int 2, .int what]) (s1 := s) rfl ?_
  refine UP.cI (M1 := m_X6_isBelow) (as := [.int what, .int 2]) (rest := []) (T := F_isBelow s what 2) rfl rfl (ux_isBelow s what 2) ?_
  refine UP.spl (m_cmp .eq (F_isBelow s what 2) 0) (((-2), s)) (bif m_cmp .ne (F_isBelow s 2 4) 0 then (bif m_cmp .eq (s 119 1) 0 then (let z9 := F_toldTrip s ; let v10 := (if 24 < (z9 119 3) then 24 else (z9 119 3)); let z11 := itr (B_cwrite_2_32 what) 0 ((v10).toNatClampNeg) z9; (v10, z11)) else (let z14 := F_find s 1; z14)) else (((-2), s))) (by first | (dsimp only [F_cwrite_2]; done) | (dsimp only; done) | rfl) (fun cc => ?_) (fun cc => ?_)
  · skip
    refine UP.ifT rfl cc ?_
    refine UP.stp 1 (i1 := 9) (L1 := [some (.ref 0), some (.int what), some (.int 2), none, none, none, none]) (st1 := [.int (-2)]) (s1 := s) rfl ?_
    exact UP.ret (r := some (.int (-2))) rfl ⟨by first | (dsimp only [F_cwrite_2]; done) | (dsimp only; done) | rfl, by first | (dsimp only [F_cwrite_2]; done) | (dsimp only; done) | rfl⟩
  · skip
    refine UP.ifF rfl cc ?_
    refine UP.stp 2 (i1 := 6) (L1 := [some (.ref 0), some (.int what), some (.int 2), none, none, none, none]) (st1 := [.int 4, .int 2]) (s1 := s) rfl ?_
    refine UP.cI (M1 := m_X6_isBelow) (as := [.int 2, .int 4]) (rest := []) (T := F_isBelow s 2 4) rfl rfl (ux_isBelow s 2 4) ?_
    refine UP.spl (m_cmp .ne (F_isBelow s 2 4) 0) (bif m_cmp .eq (s 119 1) 0 then (let z9 := F_toldTrip s ; let v10 := (if 24 < (z9 119 3) then 24 else (z9 119 3)); let z11 := itr (B_cwrite_2_32 what) 0 ((v10).toNatClampNeg) z9; (v10, z11)) else (let z14 := F_find s 1; z14)) (((-2), s)) (by first | (dsimp only [F_cwrite_2]; done) | (dsimp only; done) | rfl) (fun cc => ?_) (fun cc => ?_)
    · skip
      refine UP.ifT rfl cc ?_
      refine UP.stp 3 (i1 := 13) (L1 := [some (.ref 0), some (.int what), some (.int 2), none, none, none, none]) (st1 := [.int 2, .ref 9]) (s1 := s) rfl ?_
      refine UP.aald (e := 2) (r := 119) rfl rfl (by omega) rfl ?_
      refine UP.stp 3 (i1 := 17) (L1 := [some (.ref 0), some (.int what), some (.int 2), some (.ref 119), none, none, none]) (st1 := [.int (s 119 1)]) (s1 := s) rfl ?_
      refine UP.spl (m_cmp .eq (s 119 1) 0) (let z9 := F_toldTrip s ; let v10 := (if 24 < (z9 119 3) then 24 else (z9 119 3)); let z11 := itr (B_cwrite_2_32 what) 0 ((v10).toNatClampNeg) z9; (v10, z11)) (let z14 := F_find s 1; z14) (by first | (dsimp only [F_cwrite_2]; done) | (dsimp only; done) | rfl) (fun cc => ?_) (fun cc => ?_)
      · skip
        refine UP.ifT rfl cc ?_
        refine UP.stp 1 (i1 := 23) (L1 := [some (.ref 0), some (.int what), some (.int 2), some (.ref 119), none, none, none]) (st1 := [.ref 0]) (s1 := s) rfl ?_
        refine UP.cR (M1 := m_X6_toldTrip) (as := [.ref 0]) (rest := []) (T := F_toldTrip s ) (a := 15) rfl rfl (ux_toldTrip s ) (fun z9 e9 => ?_)
        refine UP.stp 5 (i1 := 29) (L1 := [some (.ref 0), some (.int what), some (.int 2), some (.ref 119), some (.ref 15), none, none]) (st1 := [.int (if 24 < (z9 119 3) then 24 else (z9 119 3))]) (s1 := z9) rfl ?_
        refine nm (G := fun v10 => UP m_X6_write 29 [some (.ref 0), some (.int what), some (.int 2), some (.ref 119), some (.ref 15), none, none] [.int v10] z9 (Qb (let z9 := F_toldTrip s ; let v10 := (if 24 < (z9 119 3) then 24 else (z9 119 3)); let z11 := itr (B_cwrite_2_32 what) 0 ((v10).toNatClampNeg) z9; (v10, z11)))) (if 24 < (z9 119 3) then 24 else (z9 119 3)) (fun v10 e10 => ?_)
        refine UP.stp 3 (i1 := 32) (L1 := [some (.ref 0), some (.int what), some (.int 2), some (.ref 119), some (.ref 15), some (.int v10), some (.int 0)]) (st1 := []) (s1 := z9) rfl ?_
        refine lp (fun (i11 : Nat) (a11 : SG) => ∀ (u11_0 : Option Value) (u11_2 : Option Value), UP m_X6_write 32 [u11_0, some (.int what), u11_2, some (.ref 119), some (.ref 15), some (.int v10), some (.int (Int32.ofNat i11))] [] a11 (Qb (let z9 := F_toldTrip s ; let v10 := (if 24 < (z9 119 3) then 24 else (z9 119 3)); let z11 := itr (B_cwrite_2_32 what) 0 ((v10).toNatClampNeg) z9; (v10, z11)))) (fun (_ : Nat) (a11 : SG) => Fr W_cwrite_2 z9 a11) (B_cwrite_2_32 what) ((v10).toNatClampNeg) (fun i11 a11 hi11 g11 => g11.tr (fr_B_cwrite_2_32 what i11 a11 )) (fun i11 a11 hi11 g11 kk => ?_) ((v10).toNatClampNeg) (0) z9 (by  omega) (Fr.rf _ _) (fun z11 e11 g11 => ?_) (some (.ref 0)) (some (.int 2))
        · skip
          intro u11_0 u11_2
          have hbi11 := cl_lt (v10)
          refine UP.stp 2 (i1 := 34) (L1 := [u11_0, some (.int what), u11_2, some (.ref 119), some (.ref 15), some (.int v10), some (.int (Int32.ofNat i11))]) (st1 := [.int v10, .int (Int32.ofNat i11)]) (s1 := a11) rfl ?_
          refine UP.icF rfl (ge_F hi11) ?_
          refine UP.stp 3 (i1 := 38) (L1 := [u11_0, some (.int what), u11_2, some (.ref 119), some (.ref 15), some (.int v10), some (.int (Int32.ofNat i11))]) (st1 := [.int what, .int (Int32.ofNat i11), .ref 119]) (s1 := a11) rfl ?_
          refine mrg (m_cmp .ne what 0) (a11 17 i11) (a11 16 i11) (fun v12 : Int32 => UP m_X6_write 48 [u11_0, some (.int what), u11_2, some (.ref 119), some (.ref 15), some (.int v10), some (.int (Int32.ofNat i11))] [.int v12, .int (Int32.ofNat i11), .ref 119] a11 (Qb (let z9 := F_toldTrip s ; let v10 := (if 24 < (z9 119 3) then 24 else (z9 119 3)); let z11 := itr (B_cwrite_2_32 what) 0 ((v10).toNatClampNeg) z9; (v10, z11)))) (fun cc kk => ?_) (fun cc kk => ?_) (fun v12 e12 => ?_)
          · skip
            refine UP.ifT rfl cc ?_
            refine UP.stp 3 (i1 := 47) (L1 := [u11_0, some (.int what), u11_2, some (.ref 119), some (.ref 15), some (.int v10), some (.int (Int32.ofNat i11))]) (st1 := [.int (Int32.ofNat i11), .ref 17, .int (Int32.ofNat i11), .ref 119]) (s1 := a11) rfl ?_
            refine UP.ald (e := i11) rfl rfl (by omega) ?_
            show UP m_X6_write 48 [u11_0, some (.int what), u11_2, some (.ref 119), some (.ref 15), some (.int v10), some (.int (Int32.ofNat i11))] [.int (a11 17 i11), .int (Int32.ofNat i11), .ref 119] a11 (Qb (let z9 := F_toldTrip s ; let v10 := (if 24 < (z9 119 3) then 24 else (z9 119 3)); let z11 := itr (B_cwrite_2_32 what) 0 ((v10).toNatClampNeg) z9; (v10, z11)))
            exact kk
          · skip
            refine UP.ifF rfl cc ?_
            refine UP.stp 3 (i1 := 42) (L1 := [u11_0, some (.int what), u11_2, some (.ref 119), some (.ref 15), some (.int v10), some (.int (Int32.ofNat i11))]) (st1 := [.int (Int32.ofNat i11), .ref 16, .int (Int32.ofNat i11), .ref 119]) (s1 := a11) rfl ?_
            refine UP.ald (e := i11) rfl rfl (by omega) ?_
            show UP m_X6_write 43 [u11_0, some (.int what), u11_2, some (.ref 119), some (.ref 15), some (.int v10), some (.int (Int32.ofNat i11))] [.int (a11 16 i11), .int (Int32.ofNat i11), .ref 119] a11 (Qb (let z9 := F_toldTrip s ; let v10 := (if 24 < (z9 119 3) then 24 else (z9 119 3)); let z11 := itr (B_cwrite_2_32 what) 0 ((v10).toNatClampNeg) z9; (v10, z11)))
            refine UP.stp 1 (i1 := 48) (L1 := [u11_0, some (.int what), u11_2, some (.ref 119), some (.ref 15), some (.int v10), some (.int (Int32.ofNat i11))]) (st1 := [.int (a11 16 i11), .int (Int32.ofNat i11), .ref 119]) (s1 := a11) rfl ?_
            exact kk
          refine UP.cV (M1 := m_X3_keep) (as := [.ref 119, .int (Int32.ofNat i11), .int v12]) (rest := []) (T := F_ckeep_2 a11 (Int32.ofNat i11) v12) rfl rfl (ux_ckeep_2 a11 (Int32.ofNat i11) v12) (fun z13 e13 => ?_)
          refine UP.stp 2 (i1 := 32) (L1 := [u11_0, some (.int what), u11_2, some (.ref 119), some (.ref 15), some (.int v10), some (.int ((Int32.ofNat i11) + 1))]) (st1 := []) (s1 := z13) rfl ?_
          subst e13 e12
          rw [ofn_s]
          try dsimp only [B_cwrite_2_32] at kk
          exact kk _ _
        intro u11_0 u11_2
        refine UP.stp 2 (i1 := 34) (L1 := [u11_0, some (.int what), u11_2, some (.ref 119), some (.ref 15), some (.int v10), some (.int (Int32.ofNat ((v10).toNatClampNeg)))]) (st1 := [.int v10, .int (Int32.ofNat ((v10).toNatClampNeg))]) (s1 := z11) rfl ?_
        refine UP.icT rfl (ge_T _) ?_
        refine UP.stp 1 (i1 := 52) (L1 := [u11_0, some (.int what), u11_2, some (.ref 119), some (.ref 15), some (.int v10), some (.int (Int32.ofNat ((v10).toNatClampNeg)))]) (st1 := [.int v10]) (s1 := z11) rfl ?_
        exact UP.ret (r := some (.int v10)) rfl ⟨by subst e11 e10 e9; first | (dsimp only [F_cwrite_2]; done) | (dsimp only; done) | rfl, by subst e11 e10 e9; first | (dsimp only [F_cwrite_2]; done) | (dsimp only; done) | rfl⟩
      · skip
        refine UP.ifF rfl cc ?_
        refine UP.stp 2 (i1 := 20) (L1 := [some (.ref 0), some (.int what), some (.int 2), some (.ref 119), none, none, none]) (st1 := [.int 1, .ref 0]) (s1 := s) rfl ?_
        refine UP.cB (M1 := m_X6_find) (as := [.ref 0, .int 1]) (rest := []) (T := F_find s 1) rfl rfl (ux_find s 1) (fun z14 e14 => ?_)
        exact UP.ret (r := some (.int z14.1)) rfl ⟨by subst e14; first | (dsimp only [F_cwrite_2]; done) | (dsimp only; done) | rfl, by subst e14; first | (dsimp only [F_cwrite_2]; done) | (dsimp only; done) | rfl⟩
    · skip
      refine UP.ifF rfl cc ?_
      refine UP.stp 1 (i1 := 9) (L1 := [some (.ref 0), some (.int what), some (.int 2), none, none, none, none]) (st1 := [.int (-2)]) (s1 := s) rfl ?_
      exact UP.ret (r := some (.int (-2))) rfl ⟨by first | (dsimp only [F_cwrite_2]; done) | (dsimp only; done) | rfl, by first | (dsimp only [F_cwrite_2]; done) | (dsimp only; done) | rfl⟩
end
section
def W_hasRange_2 : List (Nat × Nat × Option Nat) := []
def F_hasRange_2 (s : SG) (f : Int32) (m : Int32) : Int32 := let v3 := bif m_cmp .lt f 0 then (0 : Int32) else (bif m_cmp .lt m 0 then (0 : Int32) else (bif m_cmp .gt f ((s 119 3) - m) then (0 : Int32) else (1 : Int32))); v3
set_option maxRecDepth 20000 in
set_option maxHeartbeats 200000 in
theorem ux_hasRange_2 (s : SG) (f : Int32) (m : Int32)  : UP m_X3_hasRange 0 (m_ent 3 [.ref 119, .int f, .int m]) [] s (Qi s (F_hasRange_2 s f m)) := by
  refine UP.stp 1 (i1 := 1) (L1 := [some (.ref 119), some (.int f), some (.int m)]) (st1 := [.int f]) (s1 := s) rfl ?_
  refine mrg (m_cmp .lt f 0) (0 : Int32) (bif m_cmp .lt m 0 then (0 : Int32) else (bif m_cmp .gt f ((s 119 3) - m) then (0 : Int32) else (1 : Int32))) (fun v3 : Int32 => UP m_X3_hasRange 13 [some (.ref 119), some (.int f), some (.int m)] [.int v3] s (Qi s (F_hasRange_2 s f m))) (fun cc kk => ?_) (fun cc kk => ?_) (fun v3 e3 => ?_)
  · skip
    refine UP.ifT rfl cc ?_
    refine UP.stp 1 (i1 := 13) (L1 := [some (.ref 119), some (.int f), some (.int m)]) (st1 := [.int 0]) (s1 := s) rfl ?_
    exact kk
  · skip
    refine UP.ifF rfl cc ?_
    refine UP.stp 1 (i1 := 3) (L1 := [some (.ref 119), some (.int f), some (.int m)]) (st1 := [.int m]) (s1 := s) rfl ?_
    refine mrg (m_cmp .lt m 0) (0 : Int32) (bif m_cmp .gt f ((s 119 3) - m) then (0 : Int32) else (1 : Int32)) (fun v2 : Int32 => UP m_X3_hasRange 13 [some (.ref 119), some (.int f), some (.int m)] [.int v2] s (Qi s (F_hasRange_2 s f m))) (fun cc kk => ?_) (fun cc kk => ?_) (fun v2 e2 => ?_)
    · skip
      refine UP.ifT rfl cc ?_
      refine UP.stp 1 (i1 := 13) (L1 := [some (.ref 119), some (.int f), some (.int m)]) (st1 := [.int 0]) (s1 := s) rfl ?_
      exact kk
    · skip
      refine UP.ifF rfl cc ?_
      refine UP.stp 5 (i1 := 9) (L1 := [some (.ref 119), some (.int f), some (.int m)]) (st1 := [.int ((s 119 3) - m), .int f]) (s1 := s) rfl ?_
      refine mrg (m_cmp .gt f ((s 119 3) - m)) (0 : Int32) (1 : Int32) (fun v1 : Int32 => UP m_X3_hasRange 13 [some (.ref 119), some (.int f), some (.int m)] [.int v1] s (Qi s (F_hasRange_2 s f m))) (fun cc kk => ?_) (fun cc kk => ?_) (fun v1 e1 => ?_)
      · skip
        refine UP.icT rfl cc ?_
        refine UP.stp 1 (i1 := 13) (L1 := [some (.ref 119), some (.int f), some (.int m)]) (st1 := [.int 0]) (s1 := s) rfl ?_
        exact kk
      · skip
        refine UP.icF rfl cc ?_
        refine UP.stp 2 (i1 := 13) (L1 := [some (.ref 119), some (.int f), some (.int m)]) (st1 := [.int 1]) (s1 := s) rfl ?_
        exact kk
      subst e1
      exact kk
    subst e2
    exact kk
  exact UP.ret (r := some (.int v3)) rfl ⟨by subst e3; first | (dsimp only [F_hasRange_2]; done) | (dsimp only; done) | rfl, by subst e3; first | (dsimp only [F_hasRange_2]; done) | (dsimp only; done) | rfl⟩
def W_begin_3 : List (Nat × Nat × Option Nat) := [(121, 121, none), (122, 122, none), (0, 0, some 4)]
def F_begin_3 (s : SG) (f : Int32) (n : Int32) : SG := let z1 := fil s 122 60 0; (uset (uset (uset z1 121 1 0) 121 2 f) 121 3 n)
set_option maxRecDepth 20000 in
set_option maxHeartbeats 200000 in
theorem fr_begin_3 (s : SG) (f : Int32) (n : Int32)  : Fr W_begin_3 s (F_begin_3 s f n) := by dsimp only [F_begin_3]; exact (let z1 : SG := fil s 122 60 0; (Fr.uset (s1 := (uset (uset z1 121 1 0) 121 2 f)) (a := 121) (j := 3) (x := n) (by rfl) (Fr.uset (s1 := (uset z1 121 1 0)) (a := 121) (j := 2) (x := f) (by rfl) (Fr.uset (s1 := z1) (a := 121) (j := 1) (x := 0) (by rfl) (Fr.fil (by rfl) (Fr.rf _ _))))))
set_option maxRecDepth 20000 in
set_option maxHeartbeats 200000 in
theorem ux_begin_3 (s : SG) (f : Int32) (n : Int32)  : UP m_X3_begin 0 (m_ent 3 [.ref 121, .int f, .int n]) [] s (Qv (F_begin_3 s f n)) := by
  refine UP.stp 3 (i1 := 3) (L1 := [some (.ref 121), some (.int f), some (.int n)]) (st1 := [.int 0, .ref 122]) (s1 := s) rfl ?_
  refine UP.cV (M1 := m_J7_fill_53178) (as := [.ref 122, .int 0]) (rest := []) (T := fil s 122 60 0) rfl rfl (ux_fill s 122 0 60 rfl (by decide)) (fun z1 e1 => ?_)
  refine UP.stp 9 (i1 := 13) (L1 := [some (.ref 121), some (.int f), some (.int n)]) (st1 := []) (s1 := (uset (uset (uset z1 121 1 0) 121 2 f) 121 3 n)) rfl ?_
  exact UP.ret (r := none) rfl ⟨by subst e1; first | (dsimp only [F_begin_3]; done) | (dsimp only; done) | rfl, by subst e1; first | (dsimp only [F_begin_3]; done) | (dsimp only; done) | rfl⟩
def W_findingOf_3 : List (Nat × Nat × Option Nat) := []
def F_findingOf_3 (s : SG) (f : Int32) (i : Int32) : Int32 := bif m_cmp .eq (s 121 1) 0 then (bif m_cmp .eq (s 121 2) f then (let v6 := bif m_cmp .eq (F_isBelow s i (s 121 3)) 0 then (2 : Int32) else (0 : Int32); v6) else (3)) else (1)
set_option maxRecDepth 20000 in
set_option maxHeartbeats 200000 in
theorem ux_findingOf_3 (s : SG) (f : Int32) (i : Int32)  : UP m_X3_findingOf 0 (m_ent 3 [.ref 121, .int f, .int i]) [] s (Qi s (F_findingOf_3 s f i)) := by
  refine UP.stp 2 (i1 := 2) (L1 := [some (.ref 121), some (.int f), some (.int i)]) (st1 := [.int (s 121 1)]) (s1 := s) rfl ?_
  refine UP.spl (m_cmp .eq (s 121 1) 0) (bif m_cmp .eq (s 121 2) f then (let v6 := bif m_cmp .eq (F_isBelow s i (s 121 3)) 0 then (2 : Int32) else (0 : Int32); v6) else (3)) (1) (by first | (dsimp only [F_findingOf_3]; done) | (dsimp only; done) | rfl) (fun cc => ?_) (fun cc => ?_)
  · skip
    refine UP.ifT rfl cc ?_
    refine UP.stp 3 (i1 := 8) (L1 := [some (.ref 121), some (.int f), some (.int i)]) (st1 := [.int f, .int (s 121 2)]) (s1 := s) rfl ?_
    refine UP.spl (m_cmp .eq (s 121 2) f) (let v6 := bif m_cmp .eq (F_isBelow s i (s 121 3)) 0 then (2 : Int32) else (0 : Int32); v6) (3) (by first | (dsimp only [F_findingOf_3]; done) | (dsimp only; done) | rfl) (fun cc => ?_) (fun cc => ?_)
    · skip
      refine UP.icT rfl cc ?_
      refine UP.stp 3 (i1 := 14) (L1 := [some (.ref 121), some (.int f), some (.int i)]) (st1 := [.int (s 121 3), .int i]) (s1 := s) rfl ?_
      refine UP.cI (M1 := m_X6_isBelow) (as := [.int i, .int (s 121 3)]) (rest := []) (T := F_isBelow s i (s 121 3)) rfl rfl (ux_isBelow s i (s 121 3)) ?_
      refine mrg (m_cmp .eq (F_isBelow s i (s 121 3)) 0) (2 : Int32) (0 : Int32) (fun v6 : Int32 => UP m_X3_findingOf 19 [some (.ref 121), some (.int f), some (.int i)] [.int v6] s (Qi s (let v6 := bif m_cmp .eq (F_isBelow s i (s 121 3)) 0 then (2 : Int32) else (0 : Int32); v6))) (fun cc kk => ?_) (fun cc kk => ?_) (fun v6 e6 => ?_)
      · skip
        refine UP.ifT rfl cc ?_
        refine UP.stp 1 (i1 := 19) (L1 := [some (.ref 121), some (.int f), some (.int i)]) (st1 := [.int 2]) (s1 := s) rfl ?_
        exact kk
      · skip
        refine UP.ifF rfl cc ?_
        refine UP.stp 2 (i1 := 19) (L1 := [some (.ref 121), some (.int f), some (.int i)]) (st1 := [.int 0]) (s1 := s) rfl ?_
        exact kk
      exact UP.ret (r := some (.int v6)) rfl ⟨by subst e6; first | (dsimp only [F_findingOf_3]; done) | (dsimp only; done) | rfl, by subst e6; first | (dsimp only [F_findingOf_3]; done) | (dsimp only; done) | rfl⟩
    · skip
      refine UP.icF rfl cc ?_
      refine UP.stp 1 (i1 := 10) (L1 := [some (.ref 121), some (.int f), some (.int i)]) (st1 := [.int 3]) (s1 := s) rfl ?_
      exact UP.ret (r := some (.int 3)) rfl ⟨by first | (dsimp only [F_findingOf_3]; done) | (dsimp only; done) | rfl, by first | (dsimp only [F_findingOf_3]; done) | (dsimp only; done) | rfl⟩
  · skip
    refine UP.ifF rfl cc ?_
    refine UP.stp 1 (i1 := 4) (L1 := [some (.ref 121), some (.int f), some (.int i)]) (st1 := [.int 1]) (s1 := s) rfl ?_
    exact UP.ret (r := some (.int 1)) rfl ⟨by first | (dsimp only [F_findingOf_3]; done) | (dsimp only; done) | rfl, by first | (dsimp only [F_findingOf_3]; done) | (dsimp only; done) | rfl⟩
def W_ckeep_3 : List (Nat × Nat × Option Nat) := [(121, 121, none), (122, 122, none), (0, 0, some 4)]
def F_ckeep_3 (s : SG) (i : Int32) (v : Int32) : SG := let v2 := bif m_cmp .ne (s 121 2) 0 then (bif m_cmp .ne (s 121 2) 1 then v else v.toInt16.toInt32) else v.toInt8.toInt32; (uset s 122 i.toNatClampNeg v2)
set_option maxRecDepth 20000 in
set_option maxHeartbeats 200000 in
theorem fr_ckeep_3 (s : SG) (i : Int32) (v : Int32)  : Fr W_ckeep_3 s (F_ckeep_3 s i v) := by dsimp only [F_ckeep_3]; exact (let v2 : Int32 := bif m_cmp .ne (s 121 2) 0 then (bif m_cmp .ne (s 121 2) 1 then v else v.toInt16.toInt32) else v.toInt8.toInt32; (Fr.uset (s1 := s) (a := 122) (j := i.toNatClampNeg) (x := v2) (by rfl) (Fr.rf _ _)))
set_option maxRecDepth 20000 in
set_option maxHeartbeats 200000 in
theorem ux_ckeep_3 (s : SG) (i : Int32) (v : Int32)  : UP m_X3_keep 0 (m_ent 3 [.ref 121, .int i, .int v]) [] s (Qv (F_ckeep_3 s i v)) := by
  refine UP.stp 5 (i1 := 5) (L1 := [some (.ref 121), some (.int i), some (.int v)]) (st1 := [.int (s 121 2), .int i, .ref 122]) (s1 := s) rfl ?_
  refine mrg (m_cmp .ne (s 121 2) 0) (bif m_cmp .ne (s 121 2) 1 then v else v.toInt16.toInt32) v.toInt8.toInt32 (fun v2 : Int32 => UP m_X3_keep 17 [some (.ref 121), some (.int i), some (.int v)] [.int v2, .int i, .ref 122] s (Qv (F_ckeep_3 s i v))) (fun cc kk => ?_) (fun cc kk => ?_) (fun v2 e2 => ?_)
  · skip
    refine UP.ifT rfl cc ?_
    refine UP.stp 3 (i1 := 12) (L1 := [some (.ref 121), some (.int i), some (.int v)]) (st1 := [.int 1, .int (s 121 2), .int i, .ref 122]) (s1 := s) rfl ?_
    refine mrg (m_cmp .ne (s 121 2) 1) v v.toInt16.toInt32 (fun v1 : Int32 => UP m_X3_keep 17 [some (.ref 121), some (.int i), some (.int v)] [.int v1, .int i, .ref 122] s (Qv (F_ckeep_3 s i v))) (fun cc kk => ?_) (fun cc kk => ?_) (fun v1 e1 => ?_)
    · skip
      refine UP.icT rfl cc ?_
      refine UP.stp 1 (i1 := 17) (L1 := [some (.ref 121), some (.int i), some (.int v)]) (st1 := [.int v, .int i, .ref 122]) (s1 := s) rfl ?_
      exact kk
    · skip
      refine UP.icF rfl cc ?_
      refine UP.stp 3 (i1 := 17) (L1 := [some (.ref 121), some (.int i), some (.int v)]) (st1 := [.int v.toInt16.toInt32, .int i, .ref 122]) (s1 := s) rfl ?_
      exact kk
    subst e1
    exact kk
  · skip
    refine UP.ifF rfl cc ?_
    refine UP.stp 3 (i1 := 17) (L1 := [some (.ref 121), some (.int i), some (.int v)]) (st1 := [.int v.toInt8.toInt32, .int i, .ref 122]) (s1 := s) rfl ?_
    exact kk
  refine UP.stp 1 (i1 := 18) (L1 := [some (.ref 121), some (.int i), some (.int v)]) (st1 := []) (s1 := (uset s 122 i.toNatClampNeg v2)) rfl ?_
  exact UP.ret (r := none) rfl ⟨by subst e2; first | (dsimp only [F_ckeep_3]; done) | (dsimp only; done) | rfl, by subst e2; first | (dsimp only [F_ckeep_3]; done) | (dsimp only; done) | rfl⟩
end
section
def W_csheet_3 : List (Nat × Nat × Option Nat) := [(121, 121, none), (122, 122, none), (0, 0, some 4)]
def F_csheet_3 (s : SG) (form : Int32) (n : Int32) : Int32 × SG := bif m_cmp .eq (F_isBelow s 3 4) 0 then (((-2), s)) else (bif m_cmp .eq (F_isBelow s form 3) 0 then (((-2), s)) else (bif m_cmp .le n 60 then (bif m_cmp .ge n 0 then (let z11 := F_begin_3 s form n; (n, z11)) else (let z12 := F_find s 5; z12)) else (((-2), s))))
set_option maxRecDepth 20000 in
set_option maxHeartbeats 200000 in
theorem fr_csheet_3 (s : SG) (form : Int32) (n : Int32)  : Fr W_csheet_3 s (F_csheet_3 s form n).2 := by dsimp only [F_csheet_3]; exact (Fr.bifp (b := m_cmp .eq (F_isBelow s 3 4) 0) (x := ((-2), s)) (y := bif m_cmp .eq (F_isBelow s form 3) 0 then (((-2), s)) else (bif m_cmp .le n 60 then (bif m_cmp .ge n 0 then (let z11 := F_begin_3 s form n; (n, z11)) else (let z12 := F_find s 5; z12)) else (((-2), s)))) (fun x : Int32 × SG => x.2) (by (try dsimp only); exact (Fr.rf _ _)) (by (try dsimp only); exact (Fr.bifp (b := m_cmp .eq (F_isBelow s form 3) 0) (x := ((-2), s)) (y := bif m_cmp .le n 60 then (bif m_cmp .ge n 0 then (let z11 := F_begin_3 s form n; (n, z11)) else (let z12 := F_find s 5; z12)) else (((-2), s))) (fun x : Int32 × SG => x.2) (by (try dsimp only); exact (Fr.rf _ _)) (by (try dsimp only); exact (Fr.bifp (b := m_cmp .le n 60) (x := bif m_cmp .ge n 0 then (let z11 := F_begin_3 s form n; (n, z11)) else (let z12 := F_find s 5; z12)) (y := ((-2), s)) (fun x : Int32 × SG => x.2) (by (try dsimp only); exact (Fr.bifp (b := m_cmp .ge n 0) (x := let z11 := F_begin_3 s form n; (n, z11)) (y := let z12 := F_find s 5; z12) (fun x : Int32 × SG => x.2) (by (try dsimp only); exact (Fr.tr (s1 := s) (Fr.rf _ _) (Fr.wk (W2 := W_csheet_3) (fr_begin_3 s form n) (by rfl)))) (by (try dsimp only); exact (Fr.tr (s1 := s) (Fr.rf _ _) (Fr.wk (W2 := W_csheet_3) (fr_find s 5) (by rfl)))))) (by (try dsimp only); exact (Fr.rf _ _)))))))
set_option maxRecDepth 20000 in
set_option maxHeartbeats 200000 in
theorem ux_csheet_3 (s : SG) (form : Int32) (n : Int32)  : UP m_X6_sheet 0 (m_ent 4 [.ref 0, .int 3, .int form, .int n]) [] s (Qb (F_csheet_3 s form n)) := by
  refine UP.stp 2 (i1 := 2) (L1 := [some (.ref 0), some (.int 3), some (.int form), some (.int n)]) (st1 := [.int 4, .int 3]) (s1 := s) rfl ?_
  refine UP.cI (M1 := m_X6_isBelow) (as := [.int 3, .int 4]) (rest := []) (T := F_isBelow s 3 4) rfl rfl (ux_isBelow s 3 4) ?_
  refine UP.spl (m_cmp .eq (F_isBelow s 3 4) 0) (((-2), s)) (bif m_cmp .eq (F_isBelow s form 3) 0 then (((-2), s)) else (bif m_cmp .le n 60 then (bif m_cmp .ge n 0 then (let z11 := F_begin_3 s form n; (n, z11)) else (let z12 := F_find s 5; z12)) else (((-2), s)))) (by first | (dsimp only [F_csheet_3]; done) | (dsimp only; done) | rfl) (fun cc => ?_) (fun cc => ?_)
  · skip
    refine UP.ifT rfl cc ?_
    refine UP.stp 1 (i1 := 12) (L1 := [some (.ref 0), some (.int 3), some (.int form), some (.int n)]) (st1 := [.int (-2)]) (s1 := s) rfl ?_
    exact UP.ret (r := some (.int (-2))) rfl ⟨by first | (dsimp only [F_csheet_3]; done) | (dsimp only; done) | rfl, by first | (dsimp only [F_csheet_3]; done) | (dsimp only; done) | rfl⟩
  · skip
    refine UP.ifF rfl cc ?_
    refine UP.stp 2 (i1 := 6) (L1 := [some (.ref 0), some (.int 3), some (.int form), some (.int n)]) (st1 := [.int 3, .int form]) (s1 := s) rfl ?_
    refine UP.cI (M1 := m_X6_isBelow) (as := [.int form, .int 3]) (rest := []) (T := F_isBelow s form 3) rfl rfl (ux_isBelow s form 3) ?_
    refine UP.spl (m_cmp .eq (F_isBelow s form 3) 0) (((-2), s)) (bif m_cmp .le n 60 then (bif m_cmp .ge n 0 then (let z11 := F_begin_3 s form n; (n, z11)) else (let z12 := F_find s 5; z12)) else (((-2), s))) (by first | (dsimp only [F_csheet_3]; done) | (dsimp only; done) | rfl) (fun cc => ?_) (fun cc => ?_)
    · skip
      refine UP.ifT rfl cc ?_
      refine UP.stp 1 (i1 := 12) (L1 := [some (.ref 0), some (.int 3), some (.int form), some (.int n)]) (st1 := [.int (-2)]) (s1 := s) rfl ?_
      exact UP.ret (r := some (.int (-2))) rfl ⟨by first | (dsimp only [F_csheet_3]; done) | (dsimp only; done) | rfl, by first | (dsimp only [F_csheet_3]; done) | (dsimp only; done) | rfl⟩
    · skip
      refine UP.ifF rfl cc ?_
      refine UP.stp 2 (i1 := 10) (L1 := [some (.ref 0), some (.int 3), some (.int form), some (.int n)]) (st1 := [.int 60, .int n]) (s1 := s) rfl ?_
      refine UP.spl (m_cmp .le n 60) (bif m_cmp .ge n 0 then (let z11 := F_begin_3 s form n; (n, z11)) else (let z12 := F_find s 5; z12)) (((-2), s)) (by first | (dsimp only [F_csheet_3]; done) | (dsimp only; done) | rfl) (fun cc => ?_) (fun cc => ?_)
      · skip
        refine UP.icT rfl cc ?_
        refine UP.stp 1 (i1 := 14) (L1 := [some (.ref 0), some (.int 3), some (.int form), some (.int n)]) (st1 := [.int n]) (s1 := s) rfl ?_
        refine UP.spl (m_cmp .ge n 0) (let z11 := F_begin_3 s form n; (n, z11)) (let z12 := F_find s 5; z12) (by first | (dsimp only [F_csheet_3]; done) | (dsimp only; done) | rfl) (fun cc => ?_) (fun cc => ?_)
        · skip
          refine UP.ifT rfl cc ?_
          refine UP.stp 3 (i1 := 22) (L1 := [some (.ref 0), some (.int 3), some (.int form), some (.int n)]) (st1 := [.int 3, .ref 9]) (s1 := s) rfl ?_
          refine UP.aald (e := 3) (r := 121) rfl rfl (by omega) rfl ?_
          refine UP.stp 2 (i1 := 25) (L1 := [some (.ref 0), some (.int 3), some (.int form), some (.int n)]) (st1 := [.int n, .int form, .ref 121]) (s1 := s) rfl ?_
          refine UP.cV (M1 := m_X3_begin) (as := [.ref 121, .int form, .int n]) (rest := []) (T := F_begin_3 s form n) rfl rfl (ux_begin_3 s form n) (fun z11 e11 => ?_)
          refine UP.stp 1 (i1 := 27) (L1 := [some (.ref 0), some (.int 3), some (.int form), some (.int n)]) (st1 := [.int n]) (s1 := z11) rfl ?_
          exact UP.ret (r := some (.int n)) rfl ⟨by subst e11; first | (dsimp only [F_csheet_3]; done) | (dsimp only; done) | rfl, by subst e11; first | (dsimp only [F_csheet_3]; done) | (dsimp only; done) | rfl⟩
        · skip
          refine UP.ifF rfl cc ?_
          refine UP.stp 2 (i1 := 17) (L1 := [some (.ref 0), some (.int 3), some (.int form), some (.int n)]) (st1 := [.int 5, .ref 0]) (s1 := s) rfl ?_
          refine UP.cB (M1 := m_X6_find) (as := [.ref 0, .int 5]) (rest := []) (T := F_find s 5) rfl rfl (ux_find s 5) (fun z12 e12 => ?_)
          exact UP.ret (r := some (.int z12.1)) rfl ⟨by subst e12; first | (dsimp only [F_csheet_3]; done) | (dsimp only; done) | rfl, by subst e12; first | (dsimp only [F_csheet_3]; done) | (dsimp only; done) | rfl⟩
      · skip
        refine UP.icF rfl cc ?_
        refine UP.stp 1 (i1 := 12) (L1 := [some (.ref 0), some (.int 3), some (.int form), some (.int n)]) (st1 := [.int (-2)]) (s1 := s) rfl ?_
        exact UP.ret (r := some (.int (-2))) rfl ⟨by first | (dsimp only [F_csheet_3]; done) | (dsimp only; done) | rfl, by first | (dsimp only [F_csheet_3]; done) | (dsimp only; done) | rfl⟩
def W_close_3 : List (Nat × Nat × Option Nat) := [(121, 121, none), (122, 122, none), (0, 0, some 4)]
def F_close_3 (s : SG)  : Int32 × SG := bif m_cmp .ne (F_isBelow s 3 4) 0 then (bif m_cmp .eq (s 121 1) 0 then ((s 121 3, (uset s 121 1 1))) else (let z6 := F_find s 1; z6)) else (((-2), s))
set_option maxRecDepth 20000 in
set_option maxHeartbeats 200000 in
theorem fr_close_3 (s : SG)   : Fr W_close_3 s (F_close_3 s).2 := by dsimp only [F_close_3]; exact (Fr.bifp (b := m_cmp .ne (F_isBelow s 3 4) 0) (x := bif m_cmp .eq (s 121 1) 0 then ((s 121 3, (uset s 121 1 1))) else (let z6 := F_find s 1; z6)) (y := ((-2), s)) (fun x : Int32 × SG => x.2) (by (try dsimp only); exact (Fr.bifp (b := m_cmp .eq (s 121 1) 0) (x := (s 121 3, (uset s 121 1 1))) (y := let z6 := F_find s 1; z6) (fun x : Int32 × SG => x.2) (by (try dsimp only); exact (Fr.uset (s1 := s) (a := 121) (j := 1) (x := 1) (by rfl) (Fr.rf _ _))) (by (try dsimp only); exact (Fr.tr (s1 := s) (Fr.rf _ _) (Fr.wk (W2 := W_close_3) (fr_find s 1) (by rfl)))))) (by (try dsimp only); exact (Fr.rf _ _)))
set_option maxRecDepth 20000 in
set_option maxHeartbeats 200000 in
theorem ux_close_3 (s : SG)   : UP m_X6_lose 0 (m_ent 2 [.ref 0, .int 3]) [] s (Qb (F_close_3 s)) := by
  refine UP.stp 2 (i1 := 2) (L1 := [some (.ref 0), some (.int 3)]) (st1 := [.int 4, .int 3]) (s1 := s) rfl ?_
  refine UP.cI (M1 := m_X6_isBelow) (as := [.int 3, .int 4]) (rest := []) (T := F_isBelow s 3 4) rfl rfl (ux_isBelow s 3 4) ?_
  refine UP.spl (m_cmp .ne (F_isBelow s 3 4) 0) (bif m_cmp .eq (s 121 1) 0 then ((s 121 3, (uset s 121 1 1))) else (let z6 := F_find s 1; z6)) (((-2), s)) (by first | (dsimp only [F_close_3]; done) | (dsimp only; done) | rfl) (fun cc => ?_) (fun cc => ?_)
  · skip
    refine UP.ifT rfl cc ?_
    refine UP.stp 3 (i1 := 9) (L1 := [some (.ref 0), some (.int 3)]) (st1 := [.int 3, .ref 9]) (s1 := s) rfl ?_
    refine UP.aald (e := 3) (r := 121) rfl rfl (by omega) rfl ?_
    refine UP.stp 1 (i1 := 11) (L1 := [some (.ref 0), some (.int 3)]) (st1 := [.int (s 121 1)]) (s1 := s) rfl ?_
    refine UP.spl (m_cmp .eq (s 121 1) 0) ((s 121 3, (uset s 121 1 1))) (let z6 := F_find s 1; z6) (by first | (dsimp only [F_close_3]; done) | (dsimp only; done) | rfl) (fun cc => ?_) (fun cc => ?_)
    · skip
      refine UP.ifT rfl cc ?_
      refine UP.stp 3 (i1 := 19) (L1 := [some (.ref 0), some (.int 3)]) (st1 := [.int 3, .ref 9]) (s1 := s) rfl ?_
      refine UP.aald (e := 3) (r := 121) rfl rfl (by omega) rfl ?_
      refine UP.stp 5 (i1 := 25) (L1 := [some (.ref 0), some (.int 3)]) (st1 := [.int 3, .ref 9]) (s1 := (uset s 121 1 1)) rfl ?_
      refine UP.aald (e := 3) (r := 121) rfl rfl (by omega) rfl ?_
      refine UP.stp 1 (i1 := 27) (L1 := [some (.ref 0), some (.int 3)]) (st1 := [.int (s 121 3)]) (s1 := (uset s 121 1 1)) rfl ?_
      exact UP.ret (r := some (.int (s 121 3))) rfl ⟨by first | (dsimp only [F_close_3]; done) | (dsimp only; done) | rfl, by first | (dsimp only [F_close_3]; done) | (dsimp only; done) | rfl⟩
    · skip
      refine UP.ifF rfl cc ?_
      refine UP.stp 2 (i1 := 14) (L1 := [some (.ref 0), some (.int 3)]) (st1 := [.int 1, .ref 0]) (s1 := s) rfl ?_
      refine UP.cB (M1 := m_X6_find) (as := [.ref 0, .int 1]) (rest := []) (T := F_find s 1) rfl rfl (ux_find s 1) (fun z6 e6 => ?_)
      exact UP.ret (r := some (.int z6.1)) rfl ⟨by subst e6; first | (dsimp only [F_close_3]; done) | (dsimp only; done) | rfl, by subst e6; first | (dsimp only [F_close_3]; done) | (dsimp only; done) | rfl⟩
  · skip
    refine UP.ifF rfl cc ?_
    refine UP.stp 1 (i1 := 5) (L1 := [some (.ref 0), some (.int 3)]) (st1 := [.int (-2)]) (s1 := s) rfl ?_
    exact UP.ret (r := some (.int (-2))) rfl ⟨by first | (dsimp only [F_close_3]; done) | (dsimp only; done) | rfl, by first | (dsimp only [F_close_3]; done) | (dsimp only; done) | rfl⟩
end
section
def W_cput_3 : List (Nat × Nat × Option Nat) := [(121, 121, none), (122, 122, none), (0, 0, some 4)]
def F_cput_3 (s : SG) (form : Int32) (i : Int32) (v : Int32) : Int32 × SG := bif m_cmp .eq (F_isBelow s 3 4) 0 then (((-2), s)) else (bif m_cmp .ne (F_isBelow s form 3) 0 then (let v8 := F_findingOf_3 s form i; bif m_cmp .eq v8 0 then (let z11 := F_ckeep_3 s i v; (1, z11)) else (let z12 := F_find s v8; z12)) else (((-2), s)))
set_option maxRecDepth 20000 in
set_option maxHeartbeats 200000 in
theorem fr_cput_3 (s : SG) (form : Int32) (i : Int32) (v : Int32)  : Fr W_cput_3 s (F_cput_3 s form i v).2 := by dsimp only [F_cput_3]; exact (Fr.bifp (b := m_cmp .eq (F_isBelow s 3 4) 0) (x := ((-2), s)) (y := bif m_cmp .ne (F_isBelow s form 3) 0 then (let v8 := F_findingOf_3 s form i; bif m_cmp .eq v8 0 then (let z11 := F_ckeep_3 s i v; (1, z11)) else (let z12 := F_find s v8; z12)) else (((-2), s))) (fun x : Int32 × SG => x.2) (by (try dsimp only); exact (Fr.rf _ _)) (by (try dsimp only); exact (Fr.bifp (b := m_cmp .ne (F_isBelow s form 3) 0) (x := let v8 := F_findingOf_3 s form i; bif m_cmp .eq v8 0 then (let z11 := F_ckeep_3 s i v; (1, z11)) else (let z12 := F_find s v8; z12)) (y := ((-2), s)) (fun x : Int32 × SG => x.2) (by (try dsimp only); exact (let v8 : Int32 := F_findingOf_3 s form i; (Fr.bifp (b := m_cmp .eq v8 0) (x := let z11 := F_ckeep_3 s i v; (1, z11)) (y := let z12 := F_find s v8; z12) (fun x : Int32 × SG => x.2) (by (try dsimp only); exact (Fr.tr (s1 := s) (Fr.rf _ _) (Fr.wk (W2 := W_cput_3) (fr_ckeep_3 s i v) (by rfl)))) (by (try dsimp only); exact (Fr.tr (s1 := s) (Fr.rf _ _) (Fr.wk (W2 := W_cput_3) (fr_find s v8) (by rfl))))))) (by (try dsimp only); exact (Fr.rf _ _)))))
set_option maxRecDepth 20000 in
set_option maxHeartbeats 200000 in
theorem ux_cput_3 (s : SG) (form : Int32) (i : Int32) (v : Int32)  : UP m_X6_put 0 (m_ent 6 [.ref 0, .int 3, .int form, .int i, .int v]) [] s (Qb (F_cput_3 s form i v)) := by
  refine UP.stp 2 (i1 := 2) (L1 := [some (.ref 0), some (.int 3), some (.int form), some (.int i), some (.int v), none]) (st1 := [.int 4, .int 3]) (s1 := s) rfl ?_
  refine UP.cI (M1 := m_X6_isBelow) (as := [.int 3, .int 4]) (rest := []) (T := F_isBelow s 3 4) rfl rfl (ux_isBelow s 3 4) ?_
  refine UP.spl (m_cmp .eq (F_isBelow s 3 4) 0) (((-2), s)) (bif m_cmp .ne (F_isBelow s form 3) 0 then (let v8 := F_findingOf_3 s form i; bif m_cmp .eq v8 0 then (let z11 := F_ckeep_3 s i v; (1, z11)) else (let z12 := F_find s v8; z12)) else (((-2), s))) (by first | (dsimp only [F_cput_3]; done) | (dsimp only; done) | rfl) (fun cc => ?_) (fun cc => ?_)
  · skip
    refine UP.ifT rfl cc ?_
    refine UP.stp 1 (i1 := 9) (L1 := [some (.ref 0), some (.int 3), some (.int form), some (.int i), some (.int v), none]) (st1 := [.int (-2)]) (s1 := s) rfl ?_
    exact UP.ret (r := some (.int (-2))) rfl ⟨by first | (dsimp only [F_cput_3]; done) | (dsimp only; done) | rfl, by first | (dsimp only [F_cput_3]; done) | (dsimp only; done) | rfl⟩
  · skip
    refine UP.ifF rfl cc ?_
    refine UP.stp 2 (i1 := 6) (L1 := [some (.ref 0), some (.int 3), some (.int form), some (.int i), some (.int v), none]) (st1 := [.int 3, .int form]) (s1 := s) rfl ?_
    refine UP.cI (M1 := m_X6_isBelow) (as := [.int form, .int 3]) (rest := []) (T := F_isBelow s form 3) rfl rfl (ux_isBelow s form 3) ?_
    refine UP.spl (m_cmp .ne (F_isBelow s form 3) 0) (let v8 := F_findingOf_3 s form i; bif m_cmp .eq v8 0 then (let z11 := F_ckeep_3 s i v; (1, z11)) else (let z12 := F_find s v8; z12)) (((-2), s)) (by first | (dsimp only [F_cput_3]; done) | (dsimp only; done) | rfl) (fun cc => ?_) (fun cc => ?_)
    · skip
      refine UP.ifT rfl cc ?_
      refine UP.stp 3 (i1 := 13) (L1 := [some (.ref 0), some (.int 3), some (.int form), some (.int i), some (.int v), none]) (st1 := [.int 3, .ref 9]) (s1 := s) rfl ?_
      refine UP.aald (e := 3) (r := 121) rfl rfl (by omega) rfl ?_
      refine UP.stp 2 (i1 := 16) (L1 := [some (.ref 0), some (.int 3), some (.int form), some (.int i), some (.int v), none]) (st1 := [.int i, .int form, .ref 121]) (s1 := s) rfl ?_
      refine UP.cI (M1 := m_X3_findingOf) (as := [.ref 121, .int form, .int i]) (rest := []) (T := F_findingOf_3 s form i) rfl rfl (ux_findingOf_3 s form i) ?_
      refine nm (G := fun v8 => UP m_X6_put 17 [some (.ref 0), some (.int 3), some (.int form), some (.int i), some (.int v), none] [.int v8] s (Qb (let v8 := F_findingOf_3 s form i; bif m_cmp .eq v8 0 then (let z11 := F_ckeep_3 s i v; (1, z11)) else (let z12 := F_find s v8; z12)))) (F_findingOf_3 s form i) (fun v8 e8 => ?_)
      refine UP.stp 2 (i1 := 19) (L1 := [some (.ref 0), some (.int 3), some (.int form), some (.int i), some (.int v), some (.int v8)]) (st1 := [.int v8]) (s1 := s) rfl ?_
      refine UP.spl (m_cmp .eq v8 0) (let z11 := F_ckeep_3 s i v; (1, z11)) (let z12 := F_find s v8; z12) (by subst e8; first | (dsimp only [F_cput_3]; done) | (dsimp only; done) | rfl) (fun cc => ?_) (fun cc => ?_)
      · skip
        refine UP.ifT rfl cc ?_
        refine UP.stp 3 (i1 := 27) (L1 := [some (.ref 0), some (.int 3), some (.int form), some (.int i), some (.int v), some (.int v8)]) (st1 := [.int 3, .ref 9]) (s1 := s) rfl ?_
        refine UP.aald (e := 3) (r := 121) rfl rfl (by omega) rfl ?_
        refine UP.stp 2 (i1 := 30) (L1 := [some (.ref 0), some (.int 3), some (.int form), some (.int i), some (.int v), some (.int v8)]) (st1 := [.int v, .int i, .ref 121]) (s1 := s) rfl ?_
        refine UP.cV (M1 := m_X3_keep) (as := [.ref 121, .int i, .int v]) (rest := []) (T := F_ckeep_3 s i v) rfl rfl (ux_ckeep_3 s i v) (fun z11 e11 => ?_)
        refine UP.stp 1 (i1 := 32) (L1 := [some (.ref 0), some (.int 3), some (.int form), some (.int i), some (.int v), some (.int v8)]) (st1 := [.int 1]) (s1 := z11) rfl ?_
        exact UP.ret (r := some (.int 1)) rfl ⟨by subst e11 e8; first | (dsimp only [F_cput_3]; done) | (dsimp only; done) | rfl, by subst e11 e8; first | (dsimp only [F_cput_3]; done) | (dsimp only; done) | rfl⟩
      · skip
        refine UP.ifF rfl cc ?_
        refine UP.stp 2 (i1 := 22) (L1 := [some (.ref 0), some (.int 3), some (.int form), some (.int i), some (.int v), some (.int v8)]) (st1 := [.int v8, .ref 0]) (s1 := s) rfl ?_
        refine UP.cB (M1 := m_X6_find) (as := [.ref 0, .int v8]) (rest := []) (T := F_find s v8) rfl rfl (ux_find s v8) (fun z12 e12 => ?_)
        exact UP.ret (r := some (.int z12.1)) rfl ⟨by subst e12 e8; first | (dsimp only [F_cput_3]; done) | (dsimp only; done) | rfl, by subst e12 e8; first | (dsimp only [F_cput_3]; done) | (dsimp only; done) | rfl⟩
    · skip
      refine UP.ifF rfl cc ?_
      refine UP.stp 1 (i1 := 9) (L1 := [some (.ref 0), some (.int 3), some (.int form), some (.int i), some (.int v), none]) (st1 := [.int (-2)]) (s1 := s) rfl ?_
      exact UP.ret (r := some (.int (-2))) rfl ⟨by first | (dsimp only [F_cput_3]; done) | (dsimp only; done) | rfl, by first | (dsimp only [F_cput_3]; done) | (dsimp only; done) | rfl⟩
end
section
def W_cget_3 : List (Nat × Nat × Option Nat) := [(121, 121, none), (122, 122, none), (0, 0, some 4)]
def F_cget_3 (s : SG) (form : Int32) (i : Int32) : Int32 × SG := bif m_cmp .eq (F_isBelow s 3 4) 0 then (((-2147483648), s)) else (bif m_cmp .ne (F_isBelow s form 3) 0 then (let v8 := F_findingOf_3 s form i; bif m_cmp .eq v8 0 then ((s 122 i.toNatClampNeg, s)) else (((-2147483648), (uset s 0 4 v8)))) else (((-2147483648), s)))
set_option maxRecDepth 20000 in
set_option maxHeartbeats 200000 in
theorem fr_cget_3 (s : SG) (form : Int32) (i : Int32)  : Fr W_cget_3 s (F_cget_3 s form i).2 := by dsimp only [F_cget_3]; exact (Fr.bifp (b := m_cmp .eq (F_isBelow s 3 4) 0) (x := ((-2147483648), s)) (y := bif m_cmp .ne (F_isBelow s form 3) 0 then (let v8 := F_findingOf_3 s form i; bif m_cmp .eq v8 0 then ((s 122 i.toNatClampNeg, s)) else (((-2147483648), (uset s 0 4 v8)))) else (((-2147483648), s))) (fun x : Int32 × SG => x.2) (by (try dsimp only); exact (Fr.rf _ _)) (by (try dsimp only); exact (Fr.bifp (b := m_cmp .ne (F_isBelow s form 3) 0) (x := let v8 := F_findingOf_3 s form i; bif m_cmp .eq v8 0 then ((s 122 i.toNatClampNeg, s)) else (((-2147483648), (uset s 0 4 v8)))) (y := ((-2147483648), s)) (fun x : Int32 × SG => x.2) (by (try dsimp only); exact (let v8 : Int32 := F_findingOf_3 s form i; (Fr.bifp (b := m_cmp .eq v8 0) (x := (s 122 i.toNatClampNeg, s)) (y := ((-2147483648), (uset s 0 4 v8))) (fun x : Int32 × SG => x.2) (by (try dsimp only); exact (Fr.rf _ _)) (by (try dsimp only); exact (Fr.uset (s1 := s) (a := 0) (j := 4) (x := v8) (by rfl) (Fr.rf _ _)))))) (by (try dsimp only); exact (Fr.rf _ _)))))
set_option maxRecDepth 20000 in
set_option maxHeartbeats 200000 in
theorem ux_cget_3 (s : SG) (form : Int32) (i : Int32)  : UP m_X6_get 0 (m_ent 5 [.ref 0, .int 3, .int form, .int i]) [] s (Qb (F_cget_3 s form i)) := by
  refine UP.stp 2 (i1 := 2) (L1 := [some (.ref 0), some (.int 3), some (.int form), some (.int i), none]) (st1 := [.int 4, .int 3]) (s1 := s) rfl ?_
  refine UP.cI (M1 := m_X6_isBelow) (as := [.int 3, .int 4]) (rest := []) (T := F_isBelow s 3 4) rfl rfl (ux_isBelow s 3 4) ?_
  refine UP.spl (m_cmp .eq (F_isBelow s 3 4) 0) (((-2147483648), s)) (bif m_cmp .ne (F_isBelow s form 3) 0 then (let v8 := F_findingOf_3 s form i; bif m_cmp .eq v8 0 then ((s 122 i.toNatClampNeg, s)) else (((-2147483648), (uset s 0 4 v8)))) else (((-2147483648), s))) (by first | (dsimp only [F_cget_3]; done) | (dsimp only; done) | rfl) (fun cc => ?_) (fun cc => ?_)
  · skip
    refine UP.ifT rfl cc ?_
    refine UP.stp 1 (i1 := 9) (L1 := [some (.ref 0), some (.int 3), some (.int form), some (.int i), none]) (st1 := [.int (-2147483648)]) (s1 := s) rfl ?_
    exact UP.ret (r := some (.int (-2147483648))) rfl ⟨by first | (dsimp only [F_cget_3]; done) | (dsimp only; done) | rfl, by first | (dsimp only [F_cget_3]; done) | (dsimp only; done) | rfl⟩
  · skip
    refine UP.ifF rfl cc ?_
    refine UP.stp 2 (i1 := 6) (L1 := [some (.ref 0), some (.int 3), some (.int form), some (.int i), none]) (st1 := [.int 3, .int form]) (s1 := s) rfl ?_
    refine UP.cI (M1 := m_X6_isBelow) (as := [.int form, .int 3]) (rest := []) (T := F_isBelow s form 3) rfl rfl (ux_isBelow s form 3) ?_
    refine UP.spl (m_cmp .ne (F_isBelow s form 3) 0) (let v8 := F_findingOf_3 s form i; bif m_cmp .eq v8 0 then ((s 122 i.toNatClampNeg, s)) else (((-2147483648), (uset s 0 4 v8)))) (((-2147483648), s)) (by first | (dsimp only [F_cget_3]; done) | (dsimp only; done) | rfl) (fun cc => ?_) (fun cc => ?_)
    · skip
      refine UP.ifT rfl cc ?_
      refine UP.stp 3 (i1 := 13) (L1 := [some (.ref 0), some (.int 3), some (.int form), some (.int i), none]) (st1 := [.int 3, .ref 9]) (s1 := s) rfl ?_
      refine UP.aald (e := 3) (r := 121) rfl rfl (by omega) rfl ?_
      refine UP.stp 2 (i1 := 16) (L1 := [some (.ref 0), some (.int 3), some (.int form), some (.int i), none]) (st1 := [.int i, .int form, .ref 121]) (s1 := s) rfl ?_
      refine UP.cI (M1 := m_X3_findingOf) (as := [.ref 121, .int form, .int i]) (rest := []) (T := F_findingOf_3 s form i) rfl rfl (ux_findingOf_3 s form i) ?_
      refine nm (G := fun v8 => UP m_X6_get 17 [some (.ref 0), some (.int 3), some (.int form), some (.int i), none] [.int v8] s (Qb (let v8 := F_findingOf_3 s form i; bif m_cmp .eq v8 0 then ((s 122 i.toNatClampNeg, s)) else (((-2147483648), (uset s 0 4 v8)))))) (F_findingOf_3 s form i) (fun v8 e8 => ?_)
      refine UP.stp 2 (i1 := 19) (L1 := [some (.ref 0), some (.int 3), some (.int form), some (.int i), some (.int v8)]) (st1 := [.int v8]) (s1 := s) rfl ?_
      refine UP.spl (m_cmp .eq v8 0) ((s 122 i.toNatClampNeg, s)) (((-2147483648), (uset s 0 4 v8))) (by subst e8; first | (dsimp only [F_cget_3]; done) | (dsimp only; done) | rfl) (fun cc => ?_) (fun cc => ?_)
      · skip
        refine UP.ifT rfl cc ?_
        refine UP.stp 3 (i1 := 28) (L1 := [some (.ref 0), some (.int 3), some (.int form), some (.int i), some (.int v8)]) (st1 := [.int 3, .ref 9]) (s1 := s) rfl ?_
        refine UP.aald (e := 3) (r := 121) rfl rfl (by omega) rfl ?_
        refine UP.stp 3 (i1 := 32) (L1 := [some (.ref 0), some (.int 3), some (.int form), some (.int i), some (.int v8)]) (st1 := [.int (s 122 i.toNatClampNeg)]) (s1 := s) rfl ?_
        exact UP.ret (r := some (.int (s 122 i.toNatClampNeg))) rfl ⟨by subst e8; first | (dsimp only [F_cget_3]; done) | (dsimp only; done) | rfl, by subst e8; first | (dsimp only [F_cget_3]; done) | (dsimp only; done) | rfl⟩
      · skip
        refine UP.ifF rfl cc ?_
        refine UP.stp 4 (i1 := 24) (L1 := [some (.ref 0), some (.int 3), some (.int form), some (.int i), some (.int v8)]) (st1 := [.int (-2147483648)]) (s1 := (uset s 0 4 v8)) rfl ?_
        exact UP.ret (r := some (.int (-2147483648))) rfl ⟨by subst e8; first | (dsimp only [F_cget_3]; done) | (dsimp only; done) | rfl, by subst e8; first | (dsimp only [F_cget_3]; done) | (dsimp only; done) | rfl⟩
    · skip
      refine UP.ifF rfl cc ?_
      refine UP.stp 1 (i1 := 9) (L1 := [some (.ref 0), some (.int 3), some (.int form), some (.int i), none]) (st1 := [.int (-2147483648)]) (s1 := s) rfl ?_
      exact UP.ret (r := some (.int (-2147483648))) rfl ⟨by first | (dsimp only [F_cget_3]; done) | (dsimp only; done) | rfl, by first | (dsimp only [F_cget_3]; done) | (dsimp only; done) | rfl⟩
end
section
def W_cwrite_3 : List (Nat × Nat × Option Nat) := [(16, 20, none), (22, 45, none), (46, 52, none), (15, 15, some 8), (59, 63, none), (65, 88, none), (89, 95, none), (58, 58, some 8), (53, 57, none), (96, 108, none), (0, 0, some 12), (0, 0, some 13), (121, 121, none), (122, 122, none), (0, 0, some 4)]
def B_cwrite_3_32 (what : Int32) (i11 : Nat) (a11 : SG) : SG := let v12 := bif m_cmp .ne what 0 then a11 17 i11 else a11 16 i11; let z13 := F_ckeep_3 a11 (Int32.ofNat i11) v12; z13
set_option maxRecDepth 20000 in
set_option maxHeartbeats 200000 in
theorem fr_B_cwrite_3_32 (what : Int32) (i11 : Nat) (a11 : SG)   : Fr W_cwrite_3 a11 ((B_cwrite_3_32 what) i11 a11) := by dsimp only [B_cwrite_3_32]; exact (let v12 : Int32 := bif m_cmp .ne what 0 then a11 17 i11 else a11 16 i11; (Fr.tr (s1 := a11) (Fr.rf _ _) (Fr.wk (W2 := W_cwrite_3) (fr_ckeep_3 a11 (Int32.ofNat i11) v12) (by rfl))))
def F_cwrite_3 (s : SG) (what : Int32) : Int32 × SG := bif m_cmp .eq (F_isBelow s what 2) 0 then (((-2), s)) else (bif m_cmp .ne (F_isBelow s 3 4) 0 then (bif m_cmp .eq (s 121 1) 0 then (let z9 := F_toldTrip s ; let v10 := (if 24 < (z9 121 3) then 24 else (z9 121 3)); let z11 := itr (B_cwrite_3_32 what) 0 ((v10).toNatClampNeg) z9; (v10, z11)) else (let z14 := F_find s 1; z14)) else (((-2), s)))
set_option maxRecDepth 20000 in
set_option maxHeartbeats 200000 in
theorem fr_cwrite_3 (s : SG) (what : Int32)  : Fr W_cwrite_3 s (F_cwrite_3 s what).2 := by dsimp only [F_cwrite_3]; exact (Fr.bifp (b := m_cmp .eq (F_isBelow s what 2) 0) (x := ((-2), s)) (y := bif m_cmp .ne (F_isBelow s 3 4) 0 then (bif m_cmp .eq (s 121 1) 0 then (let z9 := F_toldTrip s ; let v10 := (if 24 < (z9 121 3) then 24 else (z9 121 3)); let z11 := itr (B_cwrite_3_32 what) 0 ((v10).toNatClampNeg) z9; (v10, z11)) else (let z14 := F_find s 1; z14)) else (((-2), s))) (fun x : Int32 × SG => x.2) (by (try dsimp only); exact (Fr.rf _ _)) (by (try dsimp only); exact (Fr.bifp (b := m_cmp .ne (F_isBelow s 3 4) 0) (x := bif m_cmp .eq (s 121 1) 0 then (let z9 := F_toldTrip s ; let v10 := (if 24 < (z9 121 3) then 24 else (z9 121 3)); let z11 := itr (B_cwrite_3_32 what) 0 ((v10).toNatClampNeg) z9; (v10, z11)) else (let z14 := F_find s 1; z14)) (y := ((-2), s)) (fun x : Int32 × SG => x.2) (by (try dsimp only); exact (Fr.bifp (b := m_cmp .eq (s 121 1) 0) (x := let z9 := F_toldTrip s ; let v10 := (if 24 < (z9 121 3) then 24 else (z9 121 3)); let z11 := itr (B_cwrite_3_32 what) 0 ((v10).toNatClampNeg) z9; (v10, z11)) (y := let z14 := F_find s 1; z14) (fun x : Int32 × SG => x.2) (by (try dsimp only); exact (let z9 : SG := F_toldTrip s ; (let v10 : Int32 := (if 24 < (z9 121 3) then 24 else (z9 121 3)); (Fr.itr (W := W_cwrite_3) (m := (fun x : SG => x)) (f := (B_cwrite_3_32 what)) (fun ii aa => Fr.wk (W2 := W_cwrite_3) (fr_B_cwrite_3_32 what ii aa ) (by rfl)) ((v10).toNatClampNeg) 0 z9 (Fr.tr (s1 := s) (Fr.rf _ _) (Fr.wk (W2 := W_cwrite_3) (fr_toldTrip s ) (by rfl))))))) (by (try dsimp only); exact (Fr.tr (s1 := s) (Fr.rf _ _) (Fr.wk (W2 := W_cwrite_3) (fr_find s 1) (by rfl)))))) (by (try dsimp only); exact (Fr.rf _ _)))))
set_option maxRecDepth 20000 in
set_option maxHeartbeats 200000 in
theorem ux_cwrite_3 (s : SG) (what : Int32)  : UP m_X6_write 0 (m_ent 7 [.ref 0, .int what, .int 3]) [] s (Qb (F_cwrite_3 s what)) := by
  refine UP.stp 2 (i1 := 2) (L1 := [some (.ref 0), some (.int what), some (.int 3), none, none, none, none]) (st1 := [.int 2, .int what]) (s1 := s) rfl ?_
  refine UP.cI (M1 := m_X6_isBelow) (as := [.int what, .int 2]) (rest := []) (T := F_isBelow s what 2) rfl rfl (ux_isBelow s what 2) ?_
  refine UP.spl (m_cmp .eq (F_isBelow s what 2) 0) (((-2), s)) (bif m_cmp .ne (F_isBelow s 3 4) 0 then (bif m_cmp .eq (s 121 1) 0 then (let z9 := F_toldTrip s ; let v10 := (if 24 < (z9 121 3) then 24 else (z9 121 3)); let z11 := itr (B_cwrite_3_32 what) 0 ((v10).toNatClampNeg) z9; (v10, z11)) else (let z14 := F_find s 1; z14)) else (((-2), s))) (by first | (dsimp only [F_cwrite_3]; done) | (dsimp only; done) | rfl) (fun cc => ?_) (fun cc => ?_)
  · skip
    refine UP.ifT rfl cc ?_
    refine UP.stp 1 (i1 := 9) (L1 := [some (.ref 0), some (.int what), some (.int 3), none, none, none, none]) (st1 := [.int (-2)]) (s1 := s) rfl ?_
    exact UP.ret (r := some (.int (-2))) rfl ⟨by first | (dsimp only [F_cwrite_3]; done) | (dsimp only; done) | rfl, by first | (dsimp only [F_cwrite_3]; done) | (dsimp only; done) | rfl⟩
  · skip
    refine UP.ifF rfl cc ?_
    refine UP.stp 2 (i1 := 6) (L1 := [some (.ref 0), some (.int what), some (.int 3), none, none, none, none]) (st1 := [.int 4, .int 3]) (s1 := s) rfl ?_
    refine UP.cI (M1 := m_X6_isBelow) (as := [.int 3, .int 4]) (rest := []) (T := F_isBelow s 3 4) rfl rfl (ux_isBelow s 3 4) ?_
    refine UP.spl (m_cmp .ne (F_isBelow s 3 4) 0) (bif m_cmp .eq (s 121 1) 0 then (let z9 := F_toldTrip s ; let v10 := (if 24 < (z9 121 3) then 24 else (z9 121 3)); let z11 := itr (B_cwrite_3_32 what) 0 ((v10).toNatClampNeg) z9; (v10, z11)) else (let z14 := F_find s 1; z14)) (((-2), s)) (by first | (dsimp only [F_cwrite_3]; done) | (dsimp only; done) | rfl) (fun cc => ?_) (fun cc => ?_)
    · skip
      refine UP.ifT rfl cc ?_
      refine UP.stp 3 (i1 := 13) (L1 := [some (.ref 0), some (.int what), some (.int 3), none, none, none, none]) (st1 := [.int 3, .ref 9]) (s1 := s) rfl ?_
      refine UP.aald (e := 3) (r := 121) rfl rfl (by omega) rfl ?_
      refine UP.stp 3 (i1 := 17) (L1 := [some (.ref 0), some (.int what), some (.int 3), some (.ref 121), none, none, none]) (st1 := [.int (s 121 1)]) (s1 := s) rfl ?_
      refine UP.spl (m_cmp .eq (s 121 1) 0) (let z9 := F_toldTrip s ; let v10 := (if 24 < (z9 121 3) then 24 else (z9 121 3)); let z11 := itr (B_cwrite_3_32 what) 0 ((v10).toNatClampNeg) z9; (v10, z11)) (let z14 := F_find s 1; z14) (by first | (dsimp only [F_cwrite_3]; done) | (dsimp only; done) | rfl) (fun cc => ?_) (fun cc => ?_)
      · skip
        refine UP.ifT rfl cc ?_
        refine UP.stp 1 (i1 := 23) (L1 := [some (.ref 0), some (.int what), some (.int 3), some (.ref 121), none, none, none]) (st1 := [.ref 0]) (s1 := s) rfl ?_
        refine UP.cR (M1 := m_X6_toldTrip) (as := [.ref 0]) (rest := []) (T := F_toldTrip s ) (a := 15) rfl rfl (ux_toldTrip s ) (fun z9 e9 => ?_)
        refine UP.stp 5 (i1 := 29) (L1 := [some (.ref 0), some (.int what), some (.int 3), some (.ref 121), some (.ref 15), none, none]) (st1 := [.int (if 24 < (z9 121 3) then 24 else (z9 121 3))]) (s1 := z9) rfl ?_
        refine nm (G := fun v10 => UP m_X6_write 29 [some (.ref 0), some (.int what), some (.int 3), some (.ref 121), some (.ref 15), none, none] [.int v10] z9 (Qb (let z9 := F_toldTrip s ; let v10 := (if 24 < (z9 121 3) then 24 else (z9 121 3)); let z11 := itr (B_cwrite_3_32 what) 0 ((v10).toNatClampNeg) z9; (v10, z11)))) (if 24 < (z9 121 3) then 24 else (z9 121 3)) (fun v10 e10 => ?_)
        refine UP.stp 3 (i1 := 32) (L1 := [some (.ref 0), some (.int what), some (.int 3), some (.ref 121), some (.ref 15), some (.int v10), some (.int 0)]) (st1 := []) (s1 := z9) rfl ?_
        refine lp (fun (i11 : Nat) (a11 : SG) => ∀ (u11_0 : Option Value) (u11_2 : Option Value), UP m_X6_write 32 [u11_0, some (.int what), u11_2, some (.ref 121), some (.ref 15), some (.int v10), some (.int (Int32.ofNat i11))] [] a11 (Qb (let z9 := F_toldTrip s ; let v10 := (if 24 < (z9 121 3) then 24 else (z9 121 3)); let z11 := itr (B_cwrite_3_32 what) 0 ((v10).toNatClampNeg) z9; (v10, z11)))) (fun (_ : Nat) (a11 : SG) => Fr W_cwrite_3 z9 a11) (B_cwrite_3_32 what) ((v10).toNatClampNeg) (fun i11 a11 hi11 g11 => g11.tr (fr_B_cwrite_3_32 what i11 a11 )) (fun i11 a11 hi11 g11 kk => ?_) ((v10).toNatClampNeg) (0) z9 (by  omega) (Fr.rf _ _) (fun z11 e11 g11 => ?_) (some (.ref 0)) (some (.int 3))
        · skip
          intro u11_0 u11_2
          have hbi11 := cl_lt (v10)
          refine UP.stp 2 (i1 := 34) (L1 := [u11_0, some (.int what), u11_2, some (.ref 121), some (.ref 15), some (.int v10), some (.int (Int32.ofNat i11))]) (st1 := [.int v10, .int (Int32.ofNat i11)]) (s1 := a11) rfl ?_
          refine UP.icF rfl (ge_F hi11) ?_
          refine UP.stp 3 (i1 := 38) (L1 := [u11_0, some (.int what), u11_2, some (.ref 121), some (.ref 15), some (.int v10), some (.int (Int32.ofNat i11))]) (st1 := [.int what, .int (Int32.ofNat i11), .ref 121]) (s1 := a11) rfl ?_
          refine mrg (m_cmp .ne what 0) (a11 17 i11) (a11 16 i11) (fun v12 : Int32 => UP m_X6_write 48 [u11_0, some (.int what), u11_2, some (.ref 121), some (.ref 15), some (.int v10), some (.int (Int32.ofNat i11))] [.int v12, .int (Int32.ofNat i11), .ref 121] a11 (Qb (let z9 := F_toldTrip s ; let v10 := (if 24 < (z9 121 3) then 24 else (z9 121 3)); let z11 := itr (B_cwrite_3_32 what) 0 ((v10).toNatClampNeg) z9; (v10, z11)))) (fun cc kk => ?_) (fun cc kk => ?_) (fun v12 e12 => ?_)
          · skip
            refine UP.ifT rfl cc ?_
            refine UP.stp 3 (i1 := 47) (L1 := [u11_0, some (.int what), u11_2, some (.ref 121), some (.ref 15), some (.int v10), some (.int (Int32.ofNat i11))]) (st1 := [.int (Int32.ofNat i11), .ref 17, .int (Int32.ofNat i11), .ref 121]) (s1 := a11) rfl ?_
            refine UP.ald (e := i11) rfl rfl (by omega) ?_
            show UP m_X6_write 48 [u11_0, some (.int what), u11_2, some (.ref 121), some (.ref 15), some (.int v10), some (.int (Int32.ofNat i11))] [.int (a11 17 i11), .int (Int32.ofNat i11), .ref 121] a11 (Qb (let z9 := F_toldTrip s ; let v10 := (if 24 < (z9 121 3) then 24 else (z9 121 3)); let z11 := itr (B_cwrite_3_32 what) 0 ((v10).toNatClampNeg) z9; (v10, z11)))
            exact kk
          · skip
            refine UP.ifF rfl cc ?_
            refine UP.stp 3 (i1 := 42) (L1 := [u11_0, some (.int what), u11_2, some (.ref 121), some (.ref 15), some (.int v10), some (.int (Int32.ofNat i11))]) (st1 := [.int (Int32.ofNat i11), .ref 16, .int (Int32.ofNat i11), .ref 121]) (s1 := a11) rfl ?_
            refine UP.ald (e := i11) rfl rfl (by omega) ?_
            show UP m_X6_write 43 [u11_0, some (.int what), u11_2, some (.ref 121), some (.ref 15), some (.int v10), some (.int (Int32.ofNat i11))] [.int (a11 16 i11), .int (Int32.ofNat i11), .ref 121] a11 (Qb (let z9 := F_toldTrip s ; let v10 := (if 24 < (z9 121 3) then 24 else (z9 121 3)); let z11 := itr (B_cwrite_3_32 what) 0 ((v10).toNatClampNeg) z9; (v10, z11)))
            refine UP.stp 1 (i1 := 48) (L1 := [u11_0, some (.int what), u11_2, some (.ref 121), some (.ref 15), some (.int v10), some (.int (Int32.ofNat i11))]) (st1 := [.int (a11 16 i11), .int (Int32.ofNat i11), .ref 121]) (s1 := a11) rfl ?_
            exact kk
          refine UP.cV (M1 := m_X3_keep) (as := [.ref 121, .int (Int32.ofNat i11), .int v12]) (rest := []) (T := F_ckeep_3 a11 (Int32.ofNat i11) v12) rfl rfl (ux_ckeep_3 a11 (Int32.ofNat i11) v12) (fun z13 e13 => ?_)
          refine UP.stp 2 (i1 := 32) (L1 := [u11_0, some (.int what), u11_2, some (.ref 121), some (.ref 15), some (.int v10), some (.int ((Int32.ofNat i11) + 1))]) (st1 := []) (s1 := z13) rfl ?_
          subst e13 e12
          rw [ofn_s]
          try dsimp only [B_cwrite_3_32] at kk
          exact kk _ _
        intro u11_0 u11_2
        refine UP.stp 2 (i1 := 34) (L1 := [u11_0, some (.int what), u11_2, some (.ref 121), some (.ref 15), some (.int v10), some (.int (Int32.ofNat ((v10).toNatClampNeg)))]) (st1 := [.int v10, .int (Int32.ofNat ((v10).toNatClampNeg))]) (s1 := z11) rfl ?_
        refine UP.icT rfl (ge_T _) ?_
        refine UP.stp 1 (i1 := 52) (L1 := [u11_0, some (.int what), u11_2, some (.ref 121), some (.ref 15), some (.int v10), some (.int (Int32.ofNat ((v10).toNatClampNeg)))]) (st1 := [.int v10]) (s1 := z11) rfl ?_
        exact UP.ret (r := some (.int v10)) rfl ⟨by subst e11 e10 e9; first | (dsimp only [F_cwrite_3]; done) | (dsimp only; done) | rfl, by subst e11 e10 e9; first | (dsimp only [F_cwrite_3]; done) | (dsimp only; done) | rfl⟩
      · skip
        refine UP.ifF rfl cc ?_
        refine UP.stp 2 (i1 := 20) (L1 := [some (.ref 0), some (.int what), some (.int 3), some (.ref 121), none, none, none]) (st1 := [.int 1, .ref 0]) (s1 := s) rfl ?_
        refine UP.cB (M1 := m_X6_find) (as := [.ref 0, .int 1]) (rest := []) (T := F_find s 1) rfl rfl (ux_find s 1) (fun z14 e14 => ?_)
        exact UP.ret (r := some (.int z14.1)) rfl ⟨by subst e14; first | (dsimp only [F_cwrite_3]; done) | (dsimp only; done) | rfl, by subst e14; first | (dsimp only [F_cwrite_3]; done) | (dsimp only; done) | rfl⟩
    · skip
      refine UP.ifF rfl cc ?_
      refine UP.stp 1 (i1 := 9) (L1 := [some (.ref 0), some (.int what), some (.int 3), none, none, none, none]) (st1 := [.int (-2)]) (s1 := s) rfl ?_
      exact UP.ret (r := some (.int (-2))) rfl ⟨by first | (dsimp only [F_cwrite_3]; done) | (dsimp only; done) | rfl, by first | (dsimp only [F_cwrite_3]; done) | (dsimp only; done) | rfl⟩
end
section
def W_hasRange_3 : List (Nat × Nat × Option Nat) := []
def F_hasRange_3 (s : SG) (f : Int32) (m : Int32) : Int32 := let v3 := bif m_cmp .lt f 0 then (0 : Int32) else (bif m_cmp .lt m 0 then (0 : Int32) else (bif m_cmp .gt f ((s 121 3) - m) then (0 : Int32) else (1 : Int32))); v3
set_option maxRecDepth 20000 in
set_option maxHeartbeats 200000 in
theorem ux_hasRange_3 (s : SG) (f : Int32) (m : Int32)  : UP m_X3_hasRange 0 (m_ent 3 [.ref 121, .int f, .int m]) [] s (Qi s (F_hasRange_3 s f m)) := by
  refine UP.stp 1 (i1 := 1) (L1 := [some (.ref 121), some (.int f), some (.int m)]) (st1 := [.int f]) (s1 := s) rfl ?_
  refine mrg (m_cmp .lt f 0) (0 : Int32) (bif m_cmp .lt m 0 then (0 : Int32) else (bif m_cmp .gt f ((s 121 3) - m) then (0 : Int32) else (1 : Int32))) (fun v3 : Int32 => UP m_X3_hasRange 13 [some (.ref 121), some (.int f), some (.int m)] [.int v3] s (Qi s (F_hasRange_3 s f m))) (fun cc kk => ?_) (fun cc kk => ?_) (fun v3 e3 => ?_)
  · skip
    refine UP.ifT rfl cc ?_
    refine UP.stp 1 (i1 := 13) (L1 := [some (.ref 121), some (.int f), some (.int m)]) (st1 := [.int 0]) (s1 := s) rfl ?_
    exact kk
  · skip
    refine UP.ifF rfl cc ?_
    refine UP.stp 1 (i1 := 3) (L1 := [some (.ref 121), some (.int f), some (.int m)]) (st1 := [.int m]) (s1 := s) rfl ?_
    refine mrg (m_cmp .lt m 0) (0 : Int32) (bif m_cmp .gt f ((s 121 3) - m) then (0 : Int32) else (1 : Int32)) (fun v2 : Int32 => UP m_X3_hasRange 13 [some (.ref 121), some (.int f), some (.int m)] [.int v2] s (Qi s (F_hasRange_3 s f m))) (fun cc kk => ?_) (fun cc kk => ?_) (fun v2 e2 => ?_)
    · skip
      refine UP.ifT rfl cc ?_
      refine UP.stp 1 (i1 := 13) (L1 := [some (.ref 121), some (.int f), some (.int m)]) (st1 := [.int 0]) (s1 := s) rfl ?_
      exact kk
    · skip
      refine UP.ifF rfl cc ?_
      refine UP.stp 5 (i1 := 9) (L1 := [some (.ref 121), some (.int f), some (.int m)]) (st1 := [.int ((s 121 3) - m), .int f]) (s1 := s) rfl ?_
      refine mrg (m_cmp .gt f ((s 121 3) - m)) (0 : Int32) (1 : Int32) (fun v1 : Int32 => UP m_X3_hasRange 13 [some (.ref 121), some (.int f), some (.int m)] [.int v1] s (Qi s (F_hasRange_3 s f m))) (fun cc kk => ?_) (fun cc kk => ?_) (fun v1 e1 => ?_)
      · skip
        refine UP.icT rfl cc ?_
        refine UP.stp 1 (i1 := 13) (L1 := [some (.ref 121), some (.int f), some (.int m)]) (st1 := [.int 0]) (s1 := s) rfl ?_
        exact kk
      · skip
        refine UP.icF rfl cc ?_
        refine UP.stp 2 (i1 := 13) (L1 := [some (.ref 121), some (.int f), some (.int m)]) (st1 := [.int 1]) (s1 := s) rfl ?_
        exact kk
      subst e1
      exact kk
    subst e2
    exact kk
  exact UP.ret (r := some (.int v3)) rfl ⟨by subst e3; first | (dsimp only [F_hasRange_3]; done) | (dsimp only; done) | rfl, by subst e3; first | (dsimp only [F_hasRange_3]; done) | (dsimp only; done) | rfl⟩
end
