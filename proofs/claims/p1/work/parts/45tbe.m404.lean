def W_sheet : List (Nat × Nat × Option Nat) := [(148, 151, none), (123, 123, some 46)]
def B_sheet_36 (s_ : Int32) (i11 : Nat) (a11 : SG) : SG := (uset a11 151 (((60 * s_) + (Int32.ofNat i11)).toNatClampNeg) 0)
set_option maxRecDepth 20000 in
set_option maxHeartbeats 200000 in
theorem fr_B_sheet_36 (s_ : Int32) (i11 : Nat) (a11 : SG)  (hi11 : i11 < 60) : Fr W_sheet a11 ((B_sheet_36 s_) i11 a11) := by dsimp only [B_sheet_36]; exact (Fr.uset (s1 := a11) (a := 151) (j := ((60 * s_) + (Int32.ofNat i11)).toNatClampNeg) (x := 0) (by rfl) (Fr.rf _ _))
def F_sheet (s : SG) (s_ : Int32) (form : Int32) (n : Int32) : Int32 × SG := bif m_cmp .eq (F_isSheet s s_) 0 then (((-2), s)) else (bif m_cmp .eq (F_in s form 0 2) 0 then (((-2), s)) else (bif m_cmp .le n 60 then (bif m_cmp .ge n 0 then (let z11 := itr (B_sheet_36 s_) 0 60 (uset (uset (uset s 148 s_.toNatClampNeg 1) 149 s_.toNatClampNeg form) 150 s_.toNatClampNeg n); (n, z11)) else (let z12 := F_meets s 5; z12)) else (((-2), s))))
set_option maxRecDepth 20000 in
set_option maxHeartbeats 200000 in
theorem fr_sheet (s : SG) (s_ : Int32) (form : Int32) (n : Int32)  : Fr W_sheet s (F_sheet s s_ form n).2 := by dsimp only [F_sheet]; exact (Fr.bifp (b := m_cmp .eq (F_isSheet s s_) 0) (x := ((-2), s)) (y := bif m_cmp .eq (F_in s form 0 2) 0 then (((-2), s)) else (bif m_cmp .le n 60 then (bif m_cmp .ge n 0 then (let z11 := itr (B_sheet_36 s_) 0 60 (uset (uset (uset s 148 s_.toNatClampNeg 1) 149 s_.toNatClampNeg form) 150 s_.toNatClampNeg n); (n, z11)) else (let z12 := F_meets s 5; z12)) else (((-2), s)))) (fun x : Int32 × SG => x.2) (by (try dsimp only); exact (Fr.rf _ _)) (by (try dsimp only); exact (Fr.bifp (b := m_cmp .eq (F_in s form 0 2) 0) (x := ((-2), s)) (y := bif m_cmp .le n 60 then (bif m_cmp .ge n 0 then (let z11 := itr (B_sheet_36 s_) 0 60 (uset (uset (uset s 148 s_.toNatClampNeg 1) 149 s_.toNatClampNeg form) 150 s_.toNatClampNeg n); (n, z11)) else (let z12 := F_meets s 5; z12)) else (((-2), s))) (fun x : Int32 × SG => x.2) (by (try dsimp only); exact (Fr.rf _ _)) (by (try dsimp only); exact (Fr.bifp (b := m_cmp .le n 60) (x := bif m_cmp .ge n 0 then (let z11 := itr (B_sheet_36 s_) 0 60 (uset (uset (uset s 148 s_.toNatClampNeg 1) 149 s_.toNatClampNeg form) 150 s_.toNatClampNeg n); (n, z11)) else (let z12 := F_meets s 5; z12)) (y := ((-2), s)) (fun x : Int32 × SG => x.2) (by (try dsimp only); exact (Fr.bifp (b := m_cmp .ge n 0) (x := let z11 := itr (B_sheet_36 s_) 0 60 (uset (uset (uset s 148 s_.toNatClampNeg 1) 149 s_.toNatClampNeg form) 150 s_.toNatClampNeg n); (n, z11)) (y := let z12 := F_meets s 5; z12) (fun x : Int32 × SG => x.2) (by (try dsimp only); exact (frItrB (W := W_sheet) (m := (fun x : SG => x)) (f := (B_sheet_36 s_)) 60 (fun ii aa hh => Fr.wk (W2 := W_sheet) (fr_B_sheet_36 s_ ii aa  hh) (by rfl)) 60 0 (uset (uset (uset s 148 s_.toNatClampNeg 1) 149 s_.toNatClampNeg form) 150 s_.toNatClampNeg n) (by omega) (Fr.uset (s1 := (uset (uset s 148 s_.toNatClampNeg 1) 149 s_.toNatClampNeg form)) (a := 150) (j := s_.toNatClampNeg) (x := n) (by rfl) (Fr.uset (s1 := (uset s 148 s_.toNatClampNeg 1)) (a := 149) (j := s_.toNatClampNeg) (x := form) (by rfl) (Fr.uset (s1 := s) (a := 148) (j := s_.toNatClampNeg) (x := 1) (by rfl) (Fr.rf _ _)))))) (by (try dsimp only); exact (Fr.tr (s1 := s) (Fr.rf _ _) (Fr.wk (W2 := W_sheet) (fr_meets s 5) (by rfl)))))) (by (try dsimp only); exact (Fr.rf _ _)))))))
set_option maxRecDepth 20000 in
set_option maxHeartbeats 200000 in
theorem ux_sheet (s : SG) (s_ : Int32) (form : Int32) (n : Int32)  : UP m_X7_sheet 0 (m_ent 5 [.ref 123, .int s_, .int form, .int n]) [] s (Qb (F_sheet s s_ form n)) := by
  refine UP.stp 1 (i1 := 1) (L1 := [some (.ref 123), some (.int s_), some (.int form), some (.int n), none]) (st1 := [.int s_]) (s1 := s) rfl ?_
  refine UP.cI (M1 := m_X7_isSheet) (as := [.int s_]) (rest := []) (T := F_isSheet s s_) rfl rfl (ux_isSheet s s_) ?_
  refine UP.spl (m_cmp .eq (F_isSheet s s_) 0) (((-2), s)) (bif m_cmp .eq (F_in s form 0 2) 0 then (((-2), s)) else (bif m_cmp .le n 60 then (bif m_cmp .ge n 0 then (let z11 := itr (B_sheet_36 s_) 0 60 (uset (uset (uset s 148 s_.toNatClampNeg 1) 149 s_.toNatClampNeg form) 150 s_.toNatClampNeg n); (n, z11)) else (let z12 := F_meets s 5; z12)) else (((-2), s)))) (by first | (dsimp only [F_sheet]; done) | (dsimp only; done) | rfl) (fun cc => ?_) (fun cc => ?_)
  · skip
    refine UP.ifT rfl cc ?_
    refine UP.stp 1 (i1 := 12) (L1 := [some (.ref 123), some (.int s_), some (.int form), some (.int n), none]) (st1 := [.int (-2)]) (s1 := s) rfl ?_
    exact UP.ret (r := some (.int (-2))) rfl ⟨by first | (dsimp only [F_sheet]; done) | (dsimp only; done) | rfl, by first | (dsimp only [F_sheet]; done) | (dsimp only; done) | rfl⟩
  · skip
    refine UP.ifF rfl cc ?_
    refine UP.stp 3 (i1 := 6) (L1 := [some (.ref 123), some (.int s_), some (.int form), some (.int n), none]) (st1 := [.int 2, .int 0, .int form]) (s1 := s) rfl ?_
    refine UP.cI (M1 := m_X7_in) (as := [.int form, .int 0, .int 2]) (rest := []) (T := F_in s form 0 2) rfl rfl (ux_in s form 0 2) ?_
    refine UP.spl (m_cmp .eq (F_in s form 0 2) 0) (((-2), s)) (bif m_cmp .le n 60 then (bif m_cmp .ge n 0 then (let z11 := itr (B_sheet_36 s_) 0 60 (uset (uset (uset s 148 s_.toNatClampNeg 1) 149 s_.toNatClampNeg form) 150 s_.toNatClampNeg n); (n, z11)) else (let z12 := F_meets s 5; z12)) else (((-2), s))) (by first | (dsimp only [F_sheet]; done) | (dsimp only; done) | rfl) (fun cc => ?_) (fun cc => ?_)
    · skip
      refine UP.ifT rfl cc ?_
      refine UP.stp 1 (i1 := 12) (L1 := [some (.ref 123), some (.int s_), some (.int form), some (.int n), none]) (st1 := [.int (-2)]) (s1 := s) rfl ?_
      exact UP.ret (r := some (.int (-2))) rfl ⟨by first | (dsimp only [F_sheet]; done) | (dsimp only; done) | rfl, by first | (dsimp only [F_sheet]; done) | (dsimp only; done) | rfl⟩
    · skip
      refine UP.ifF rfl cc ?_
      refine UP.stp 2 (i1 := 10) (L1 := [some (.ref 123), some (.int s_), some (.int form), some (.int n), none]) (st1 := [.int 60, .int n]) (s1 := s) rfl ?_
      refine UP.spl (m_cmp .le n 60) (bif m_cmp .ge n 0 then (let z11 := itr (B_sheet_36 s_) 0 60 (uset (uset (uset s 148 s_.toNatClampNeg 1) 149 s_.toNatClampNeg form) 150 s_.toNatClampNeg n); (n, z11)) else (let z12 := F_meets s 5; z12)) (((-2), s)) (by first | (dsimp only [F_sheet]; done) | (dsimp only; done) | rfl) (fun cc => ?_) (fun cc => ?_)
      · skip
        refine UP.icT rfl cc ?_
        refine UP.stp 1 (i1 := 14) (L1 := [some (.ref 123), some (.int s_), some (.int form), some (.int n), none]) (st1 := [.int n]) (s1 := s) rfl ?_
        refine UP.spl (m_cmp .ge n 0) (let z11 := itr (B_sheet_36 s_) 0 60 (uset (uset (uset s 148 s_.toNatClampNeg 1) 149 s_.toNatClampNeg form) 150 s_.toNatClampNeg n); (n, z11)) (let z12 := F_meets s 5; z12) (by first | (dsimp only [F_sheet]; done) | (dsimp only; done) | rfl) (fun cc => ?_) (fun cc => ?_)
        · skip
          refine UP.ifT rfl cc ?_
          refine UP.stp 17 (i1 := 36) (L1 := [some (.ref 123), some (.int s_), some (.int form), some (.int n), some (.int 0)]) (st1 := []) (s1 := (uset (uset (uset s 148 s_.toNatClampNeg 1) 149 s_.toNatClampNeg form) 150 s_.toNatClampNeg n)) rfl ?_
          refine lp (fun (i11 : Nat) (a11 : SG) => ∀ (u11_2 : Option Value), UP m_X7_sheet 36 [some (.ref 123), some (.int s_), u11_2, some (.int n), some (.int (Int32.ofNat i11))] [] a11 (Qb (let z11 := itr (B_sheet_36 s_) 0 60 (uset (uset (uset s 148 s_.toNatClampNeg 1) 149 s_.toNatClampNeg form) 150 s_.toNatClampNeg n); (n, z11)))) (fun (_ : Nat) (a11 : SG) => Fr W_sheet (uset (uset (uset s 148 s_.toNatClampNeg 1) 149 s_.toNatClampNeg form) 150 s_.toNatClampNeg n) a11) (B_sheet_36 s_) (60) (fun i11 a11 hi11 g11 => g11.tr (fr_B_sheet_36 s_ i11 a11 hi11)) (fun i11 a11 hi11 g11 kk => ?_) 60 (0) (uset (uset (uset s 148 s_.toNatClampNeg 1) 149 s_.toNatClampNeg form) 150 s_.toNatClampNeg n) (by  omega) (Fr.rf _ _) (fun z11 e11 g11 => ?_) (some (.int form))
          · skip
            intro u11_2
            refine UP.stp 2 (i1 := 38) (L1 := [some (.ref 123), some (.int s_), u11_2, some (.int n), some (.int (Int32.ofNat i11))]) (st1 := [.int 60, .int (Int32.ofNat i11)]) (s1 := a11) rfl ?_
            refine UP.icF rfl (ge_F (show i11 < (60 : Int32).toNatClampNeg from hi11)) ?_
            refine UP.stp 11 (i1 := 36) (L1 := [some (.ref 123), some (.int s_), u11_2, some (.int n), some (.int ((Int32.ofNat i11) + 1))]) (st1 := []) (s1 := (uset a11 151 (((60 * s_) + (Int32.ofNat i11)).toNatClampNeg) 0)) rfl ?_
            rw [ofn_s]
            try dsimp only [B_sheet_36] at kk
            exact kk _
          intro u11_2
          refine UP.stp 2 (i1 := 38) (L1 := [some (.ref 123), some (.int s_), u11_2, some (.int n), some (.int (Int32.ofNat 60))]) (st1 := [.int 60, .int (Int32.ofNat 60)]) (s1 := z11) rfl ?_
          refine UP.icT rfl (ge_T (60 : Int32)) ?_
          refine UP.stp 1 (i1 := 51) (L1 := [some (.ref 123), some (.int s_), u11_2, some (.int n), some (.int (Int32.ofNat 60))]) (st1 := [.int n]) (s1 := z11) rfl ?_
          exact UP.ret (r := some (.int n)) rfl ⟨by subst e11; first | (dsimp only [F_sheet]; done) | (dsimp only; done) | rfl, by subst e11; first | (dsimp only [F_sheet]; done) | (dsimp only; done) | rfl⟩
        · skip
          refine UP.ifF rfl cc ?_
          refine UP.stp 2 (i1 := 17) (L1 := [some (.ref 123), some (.int s_), some (.int form), some (.int n), none]) (st1 := [.int 5, .ref 123]) (s1 := s) rfl ?_
          refine UP.cB (M1 := m_X7_meets) (as := [.ref 123, .int 5]) (rest := []) (T := F_meets s 5) rfl rfl (ux_meets s 5) (fun z12 e12 => ?_)
          exact UP.ret (r := some (.int z12.1)) rfl ⟨by subst e12; first | (dsimp only [F_sheet]; done) | (dsimp only; done) | rfl, by subst e12; first | (dsimp only [F_sheet]; done) | (dsimp only; done) | rfl⟩
      · skip
        refine UP.icF rfl cc ?_
        refine UP.stp 1 (i1 := 12) (L1 := [some (.ref 123), some (.int s_), some (.int form), some (.int n), none]) (st1 := [.int (-2)]) (s1 := s) rfl ?_
        exact UP.ret (r := some (.int (-2))) rfl ⟨by first | (dsimp only [F_sheet]; done) | (dsimp only; done) | rfl, by first | (dsimp only [F_sheet]; done) | (dsimp only; done) | rfl⟩
