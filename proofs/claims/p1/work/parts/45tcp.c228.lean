def W_cstroke : List (Nat × Nat × Option Nat) := [(16, 20, none), (22, 45, none), (46, 52, none), (15, 15, some 8), (59, 63, none), (65, 88, none), (89, 95, none), (58, 58, some 8), (53, 57, none), (96, 108, none), (0, 0, some 12), (0, 0, some 13)]
def B_cstroke_21 (minute : Int32) (i8 : Nat) (a8 : SG × Int32 × Int32) : SG × Int32 × Int32 := let z9 := F_rowOther (uset a8.1 56 minute.toNatClampNeg (Int32.ofNat i8)) ; let v10 := z9 59 23; let w11 := bif m_cmp .le v10 a8.2.2 then (a8.2.1, a8.2.2) else (Int32.ofNat i8, v10); (z9, w11.1, w11.2)
set_option maxRecDepth 20000 in
set_option maxHeartbeats 200000 in
theorem fr_B_cstroke_21 (minute : Int32) (i8 : Nat) (a8 : SG × Int32 × Int32)  (hi8 : i8 < 4) : Fr W_cstroke a8.1 ((B_cstroke_21 minute) i8 a8).1 := by dsimp only [B_cstroke_21]; exact (Fr.tr (s1 := (uset a8.1 56 minute.toNatClampNeg (Int32.ofNat i8))) (Fr.uset (s1 := a8.1) (a := 56) (j := minute.toNatClampNeg) (x := Int32.ofNat i8) (by rfl) (Fr.rf _ _)) (Fr.wk (W2 := W_cstroke) (fr_rowOther (uset a8.1 56 minute.toNatClampNeg (Int32.ofNat i8)) ) (by rfl)))
def F_cstroke (s : SG) (minute : Int32) (what : Int32) : Int32 × SG := bif m_cmp .eq (F_isBelow s minute 24) 0 then (((-2), s)) else (bif m_cmp .ne (F_isBelow s what 2) 0 then (let z7 := F_take s ; let z8 := itr (B_cstroke_21 minute) 0 4 (z7, (-1), (-1)); let v12 := bif m_cmp .ne what 0 then z8.2.2 else z8.2.1; (v12, z8.1)) else (((-2), s)))
set_option maxRecDepth 20000 in
set_option maxHeartbeats 200000 in
theorem fr_cstroke (s : SG) (minute : Int32) (what : Int32)  : Fr W_cstroke s (F_cstroke s minute what).2 := by dsimp only [F_cstroke]; exact (Fr.bifp (b := m_cmp .eq (F_isBelow s minute 24) 0) (x := ((-2), s)) (y := bif m_cmp .ne (F_isBelow s what 2) 0 then (let z7 := F_take s ; let z8 := itr (B_cstroke_21 minute) 0 4 (z7, (-1), (-1)); let v12 := bif m_cmp .ne what 0 then z8.2.2 else z8.2.1; (v12, z8.1)) else (((-2), s))) (fun x : Int32 × SG => x.2) (by (try dsimp only); exact (Fr.rf _ _)) (by (try dsimp only); exact (Fr.bifp (b := m_cmp .ne (F_isBelow s what 2) 0) (x := let z7 := F_take s ; let z8 := itr (B_cstroke_21 minute) 0 4 (z7, (-1), (-1)); let v12 := bif m_cmp .ne what 0 then z8.2.2 else z8.2.1; (v12, z8.1)) (y := ((-2), s)) (fun x : Int32 × SG => x.2) (by (try dsimp only); exact (let z7 : SG := F_take s ; (frItrB (W := W_cstroke) (m := (fun x : SG × Int32 × Int32 => x.1)) (f := (B_cstroke_21 minute)) 4 (fun ii aa hh => Fr.wk (W2 := W_cstroke) (fr_B_cstroke_21 minute ii aa  hh) (by rfl)) 4 0 (z7, (-1), (-1)) (by omega) (Fr.tr (s1 := s) (Fr.rf _ _) (Fr.wk (W2 := W_cstroke) (fr_take s ) (by rfl)))))) (by (try dsimp only); exact (Fr.rf _ _)))))
set_option maxRecDepth 20000 in
set_option maxHeartbeats 200000 in
theorem ux_cstroke (s : SG) (minute : Int32) (what : Int32)  : UP m_X6_stroke 0 (m_ent 7 [.ref 0, .int minute, .int what]) [] s (Qb (F_cstroke s minute what)) := by
  refine UP.stp 2 (i1 := 2) (L1 := [some (.ref 0), some (.int minute), some (.int what), none, none, none, none]) (st1 := [.int 24, .int minute]) (s1 := s) rfl ?_
  refine UP.cI (M1 := m_X6_isBelow) (as := [.int minute, .int 24]) (rest := []) (T := F_isBelow s minute 24) rfl rfl (ux_isBelow s minute 24) ?_
  refine UP.spl (m_cmp .eq (F_isBelow s minute 24) 0) (((-2), s)) (bif m_cmp .ne (F_isBelow s what 2) 0 then (let z7 := F_take s ; let z8 := itr (B_cstroke_21 minute) 0 4 (z7, (-1), (-1)); let v12 := bif m_cmp .ne what 0 then z8.2.2 else z8.2.1; (v12, z8.1)) else (((-2), s))) (by first | (dsimp only [F_cstroke]; done) | (dsimp only; done) | rfl) (fun cc => ?_) (fun cc => ?_)
  · skip
    refine UP.ifT rfl cc ?_
    refine UP.stp 1 (i1 := 9) (L1 := [some (.ref 0), some (.int minute), some (.int what), none, none, none, none]) (st1 := [.int (-2)]) (s1 := s) rfl ?_
    exact UP.ret (r := some (.int (-2))) rfl ⟨by first | (dsimp only [F_cstroke]; done) | (dsimp only; done) | rfl, by first | (dsimp only [F_cstroke]; done) | (dsimp only; done) | rfl⟩
  · skip
    refine UP.ifF rfl cc ?_
    refine UP.stp 2 (i1 := 6) (L1 := [some (.ref 0), some (.int minute), some (.int what), none, none, none, none]) (st1 := [.int 2, .int what]) (s1 := s) rfl ?_
    refine UP.cI (M1 := m_X6_isBelow) (as := [.int what, .int 2]) (rest := []) (T := F_isBelow s what 2) rfl rfl (ux_isBelow s what 2) ?_
    refine UP.spl (m_cmp .ne (F_isBelow s what 2) 0) (let z7 := F_take s ; let z8 := itr (B_cstroke_21 minute) 0 4 (z7, (-1), (-1)); let v12 := bif m_cmp .ne what 0 then z8.2.2 else z8.2.1; (v12, z8.1)) (((-2), s)) (by first | (dsimp only [F_cstroke]; done) | (dsimp only; done) | rfl) (fun cc => ?_) (fun cc => ?_)
    · skip
      refine UP.ifT rfl cc ?_
      refine UP.stp 4 (i1 := 14) (L1 := [some (.ref 0), some (.int minute), some (.int what), none, none, none, none]) (st1 := [.ref 10, .ref 53]) (s1 := s) rfl ?_
      refine UP.cV (M1 := m_X0_take) (as := [.ref 53, .ref 10]) (rest := []) (T := F_take s ) rfl rfl (ux_take s ) (fun z7 e7 => ?_)
      refine UP.stp 6 (i1 := 21) (L1 := [some (.ref 0), some (.int minute), some (.int what), some (.int (-1)), some (.int (-1)), some (.int 0), none]) (st1 := []) (s1 := z7) rfl ?_
      refine lp (fun (i8 : Nat) (a8 : SG × Int32 × Int32) => ∀ (u8_6 : Option Value), UP m_X6_stroke 21 [some (.ref 0), some (.int minute), some (.int what), some (.int a8.2.1), some (.int a8.2.2), some (.int (Int32.ofNat i8)), u8_6] [] a8.1 (Qb (let z7 := F_take s ; let z8 := itr (B_cstroke_21 minute) 0 4 (z7, (-1), (-1)); let v12 := bif m_cmp .ne what 0 then z8.2.2 else z8.2.1; (v12, z8.1)))) (fun (_ : Nat) (a8 : SG × Int32 × Int32) => Fr W_cstroke z7 a8.1) (B_cstroke_21 minute) (4) (fun i8 a8 hi8 g8 => g8.tr (fr_B_cstroke_21 minute i8 a8 hi8)) (fun i8 a8 hi8 g8 kk => ?_) 4 (0) (z7, (-1), (-1)) (by  omega) (Fr.rf _ _) (fun z8 e8 g8 => ?_) none
      · skip
        intro u8_6
        refine UP.stp 2 (i1 := 23) (L1 := [some (.ref 0), some (.int minute), some (.int what), some (.int a8.2.1), some (.int a8.2.2), some (.int (Int32.ofNat i8)), u8_6]) (st1 := [.int 3, .int (Int32.ofNat i8)]) (s1 := a8.1) rfl ?_
        refine UP.icF rfl (gt_F (show i8 ≤ (3 : Int32).toNatClampNeg from Nat.le_of_lt_succ hi8) (by decide)) ?_
        refine UP.stp 7 (i1 := 31) (L1 := [some (.ref 0), some (.int minute), some (.int what), some (.int a8.2.1), some (.int a8.2.2), some (.int (Int32.ofNat i8)), u8_6]) (st1 := [.ref 0]) (s1 := (uset a8.1 56 minute.toNatClampNeg (Int32.ofNat i8))) rfl ?_
        refine UP.cR (M1 := m_X6_rowOther) (as := [.ref 0]) (rest := []) (T := F_rowOther (uset a8.1 56 minute.toNatClampNeg (Int32.ofNat i8)) ) (a := 58) rfl rfl (ux_rowOther (uset a8.1 56 minute.toNatClampNeg (Int32.ofNat i8)) ) (fun z9 e9 => ?_)
        refine UP.stp 3 (i1 := 35) (L1 := [some (.ref 0), some (.int minute), some (.int what), some (.int a8.2.1), some (.int a8.2.2), some (.int (Int32.ofNat i8)), u8_6]) (st1 := [.int (z9 59 23)]) (s1 := z9) rfl ?_
        refine nm (G := fun v10 => UP m_X6_stroke 35 [some (.ref 0), some (.int minute), some (.int what), some (.int a8.2.1), some (.int a8.2.2), some (.int (Int32.ofNat i8)), u8_6] [.int v10] z9 (Qb (let z7 := F_take s ; let z8 := itr (B_cstroke_21 minute) 0 4 (z7, (-1), (-1)); let v12 := bif m_cmp .ne what 0 then z8.2.2 else z8.2.1; (v12, z8.1)))) (z9 59 23) (fun v10 e10 => ?_)
        refine UP.stp 3 (i1 := 38) (L1 := [some (.ref 0), some (.int minute), some (.int what), some (.int a8.2.1), some (.int a8.2.2), some (.int (Int32.ofNat i8)), some (.int v10)]) (st1 := [.int a8.2.2, .int v10]) (s1 := z9) rfl ?_
        refine mrg (m_cmp .le v10 a8.2.2) (a8.2.1, a8.2.2) (Int32.ofNat i8, v10) (fun w11 : Int32 × Int32 => UP m_X6_stroke 43 [some (.ref 0), some (.int minute), some (.int what), some (.int w11.1), some (.int w11.2), some (.int (Int32.ofNat i8)), some (.int v10)] [] z9 (Qb (let z7 := F_take s ; let z8 := itr (B_cstroke_21 minute) 0 4 (z7, (-1), (-1)); let v12 := bif m_cmp .ne what 0 then z8.2.2 else z8.2.1; (v12, z8.1)))) (fun cc kk => ?_) (fun cc kk => ?_) (fun w11 e11 => ?_)
        · skip
          refine UP.icT rfl cc ?_
          exact kk
        · skip
          refine UP.icF rfl cc ?_
          refine UP.stp 4 (i1 := 43) (L1 := [some (.ref 0), some (.int minute), some (.int what), some (.int (Int32.ofNat i8)), some (.int v10), some (.int (Int32.ofNat i8)), some (.int v10)]) (st1 := []) (s1 := z9) rfl ?_
          exact kk
        refine UP.stp 2 (i1 := 21) (L1 := [some (.ref 0), some (.int minute), some (.int what), some (.int w11.1), some (.int w11.2), some (.int ((Int32.ofNat i8) + 1)), some (.int v10)]) (st1 := []) (s1 := z9) rfl ?_
        subst e11 e10 e9
        rw [ofn_s]
        try dsimp only [B_cstroke_21] at kk
        exact kk _
      intro u8_6
      refine UP.stp 2 (i1 := 23) (L1 := [some (.ref 0), some (.int minute), some (.int what), some (.int z8.2.1), some (.int z8.2.2), some (.int (Int32.ofNat 4)), u8_6]) (st1 := [.int 3, .int (Int32.ofNat 4)]) (s1 := z8.1) rfl ?_
      refine UP.icT rfl (gt_T (v := 3) (by decide) (by decide)) ?_
      refine UP.stp 1 (i1 := 46) (L1 := [some (.ref 0), some (.int minute), some (.int what), some (.int z8.2.1), some (.int z8.2.2), some (.int (Int32.ofNat 4)), u8_6]) (st1 := [.int what]) (s1 := z8.1) rfl ?_
      refine mrg (m_cmp .ne what 0) z8.2.2 z8.2.1 (fun v12 : Int32 => UP m_X6_stroke 50 [some (.ref 0), some (.int minute), some (.int what), some (.int z8.2.1), some (.int z8.2.2), some (.int (Int32.ofNat 4)), u8_6] [.int v12] z8.1 (Qb (let z7 := F_take s ; let z8 := itr (B_cstroke_21 minute) 0 4 (z7, (-1), (-1)); let v12 := bif m_cmp .ne what 0 then z8.2.2 else z8.2.1; (v12, z8.1)))) (fun cc kk => ?_) (fun cc kk => ?_) (fun v12 e12 => ?_)
      · skip
        refine UP.ifT rfl cc ?_
        refine UP.stp 1 (i1 := 50) (L1 := [some (.ref 0), some (.int minute), some (.int what), some (.int z8.2.1), some (.int z8.2.2), some (.int (Int32.ofNat 4)), u8_6]) (st1 := [.int z8.2.2]) (s1 := z8.1) rfl ?_
        exact kk
      · skip
        refine UP.ifF rfl cc ?_
        refine UP.stp 2 (i1 := 50) (L1 := [some (.ref 0), some (.int minute), some (.int what), some (.int z8.2.1), some (.int z8.2.2), some (.int (Int32.ofNat 4)), u8_6]) (st1 := [.int z8.2.1]) (s1 := z8.1) rfl ?_
        exact kk
      exact UP.ret (r := some (.int v12)) rfl ⟨by subst e12 e8 e7; first | (dsimp only [F_cstroke]; done) | (dsimp only; done) | rfl, by subst e12 e8 e7; first | (dsimp only [F_cstroke]; done) | (dsimp only; done) | rfl⟩
    · skip
      refine UP.ifF rfl cc ?_
      refine UP.stp 1 (i1 := 9) (L1 := [some (.ref 0), some (.int minute), some (.int what), none, none, none, none]) (st1 := [.int (-2)]) (s1 := s) rfl ?_
      exact UP.ret (r := some (.int (-2))) rfl ⟨by first | (dsimp only [F_cstroke]; done) | (dsimp only; done) | rfl, by first | (dsimp only [F_cstroke]; done) | (dsimp only; done) | rfl⟩
