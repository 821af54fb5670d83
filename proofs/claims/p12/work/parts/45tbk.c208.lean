def W_cstroke : List (Nat × Nat × Option Nat) := [(16, 20, none), (22, 45, none), (46, 52, none), (15, 15, some 8), (59, 63, none), (65, 88, none), (89, 95, none), (58, 58, some 8), (54, 57, none), (53, 53, none), (96, 108, none), (0, 0, some 12), (0, 0, some 13)]
def B_cstroke_21 (minute : Int32) (i8 : Nat) (a8 : SG × Int32 × Int32) : SG × Int32 × Int32 := let z9 := F_rowOther (uset a8.1 56 minute.toNatClampNeg (Int32.ofNat i8)) ; let v10 := z9 59 23; let w11 := bif m_cmp .le v10 a8.2.2 then (a8.2.1, a8.2.2) else (Int32.ofNat i8, v10); (z9, w11.1, w11.2)
theorem fr_B_cstroke_21 (minute : Int32) (i8 : Nat) (a8 : SG × Int32 × Int32)  (hi8 : i8 < 4) : Fr W_cstroke a8.1 ((B_cstroke_21 minute) i8 a8).1 := by dsimp only [B_cstroke_21]; exact (Fr.tr (s1 := (uset a8.1 56 minute.toNatClampNeg (Int32.ofNat i8))) (Fr.uset (s1 := a8.1) (a := 56) (j := minute.toNatClampNeg) (x := Int32.ofNat i8) (by rfl) (Fr.rf _ _)) (Fr.wk (W2 := W_cstroke) (fr_rowOther (uset a8.1 56 minute.toNatClampNeg (Int32.ofNat i8)) ) (by rfl)))
def F_cstroke (s : SG) (minute : Int32) (what : Int32) : Int32 × SG := bif m_cmp .eq (F_isBelow s minute 24) 0 then (((-2), s)) else (bif m_cmp .ne (F_isBelow s what 2) 0 then (let z7 := F_take s ; let z8 := itr (B_cstroke_21 minute) 0 4 (z7, (-1), (-1)); let v12 := bif m_cmp .ne what 0 then z8.2.2 else z8.2.1; (v12, z8.1)) else (((-2), s)))
theorem fr_cstroke (s : SG) (minute : Int32) (what : Int32)  : Fr W_cstroke s (F_cstroke s minute what).2 := by dsimp only [F_cstroke]; exact (Fr.bifp (b := m_cmp .eq (F_isBelow s minute 24) 0) (x := ((-2), s)) (y := bif m_cmp .ne (F_isBelow s what 2) 0 then (let z7 := F_take s ; let z8 := itr (B_cstroke_21 minute) 0 4 (z7, (-1), (-1)); let v12 := bif m_cmp .ne what 0 then z8.2.2 else z8.2.1; (v12, z8.1)) else (((-2), s))) (fun x : Int32 × SG => x.2) (Fr.rf _ _) (Fr.bifp (b := m_cmp .ne (F_isBelow s what 2) 0) (x := let z7 := F_take s ; let z8 := itr (B_cstroke_21 minute) 0 4 (z7, (-1), (-1)); let v12 := bif m_cmp .ne what 0 then z8.2.2 else z8.2.1; (v12, z8.1)) (y := ((-2), s)) (fun x : Int32 × SG => x.2) (frItrB (W := W_cstroke) (m := (fun x : SG × Int32 × Int32 => x.1)) 4 (fun i a h => Fr.wk (W2 := W_cstroke) (fr_B_cstroke_21 minute i a  h) (by rfl)) _ _ _ (by omega) (Fr.tr (s1 := s) (Fr.rf _ _) (Fr.wk (W2 := W_cstroke) (fr_take s ) (by rfl)))) (Fr.rf _ _)))
theorem ux_cstroke (s : SG) (minute : Int32) (what : Int32)  : UP m_X6_stroke 0 (m_ent 7 [.ref 0, .int minute, .int what]) [] s (Qb (F_cstroke s minute what)) := by
  refine UP.stp 2 (i1 := 2) (L1 := [some (.ref 0), some (.int minute), some (.int what), none, none, none, none]) (st1 := [.int 24, .int minute]) (s1 := s) rfl ?_
  refine UP.cI (M1 := m_X6_isBelow) (as := [.int minute, .int 24]) (rest := []) (T := F_isBelow s minute 24) rfl rfl (ux_isBelow s minute 24) ?_
  refine UP.spl (m_cmp .eq (F_isBelow s minute 24) 0) (((-2), s)) (bif m_cmp .ne (F_isBelow s what 2) 0 then (let z7 := F_take s ; let z8 := itr (B_cstroke_21 minute) 0 4 (z7, (-1), (-1)); let v12 := bif m_cmp .ne what 0 then z8.2.2 else z8.2.1; (v12, z8.1)) else (((-2), s))) (by rfl) (fun cc => ?_) (fun cc => ?_)
  · skip
    refine UP.ifT rfl cc ?_
    refine UP.stp 1 (i1 := 9) (L1 := [some (.ref 0), some (.int minute), some (.int what), none, none, none, none]) (st1 := [.int (-2)]) (s1 := s) rfl ?_
    exact UP.ret (r := some (.int (-2))) rfl ⟨by rfl, by rfl⟩
  · skip
    refine UP.ifF rfl cc ?_
    refine UP.stp 2 (i1 := 6) (L1 := [some (.ref 0), some (.int minute), some (.int what), none, none, none, none]) (st1 := [.int 2, .int what]) (s1 := s) rfl ?_
    refine UP.cI (M1 := m_X6_isBelow) (as := [.int what, .int 2]) (rest := []) (T := F_isBelow s what 2) rfl rfl (ux_isBelow s what 2) ?_
    refine UP.spl (m_cmp .ne (F_isBelow s what 2) 0) (let z7 := F_take s ; let z8 := itr (B_cstroke_21 minute) 0 4 (z7, (-1), (-1)); let v12 := bif m_cmp .ne what 0 then z8.2.2 else z8.2.1; (v12, z8.1)) (((-2), s)) (by rfl) (fun cc => ?_) (fun cc => ?_)
    · skip
      refine UP.ifT rfl cc ?_
      refine UP.stp 4 (i1 := 14) (L1 := [some (.ref 0), some (.int minute), some (.int what), none, none, none, none]) (st1 := [.ref 10, .ref 53]) (s1 := s) rfl ?_
      refine UP.cV (M1 := m_X0_take) (as := [.ref 53, .ref 10]) (rest := []) (T := F_take s ) rfl rfl (ux_take s ) (fun z7 e7 => ?_)
      refine UP.stp 6 (i1 := 21) (L1 := [some (.ref 0), some (.int minute), some (.int what), some (.int (-1)), some (.int (-1)), some (.int 0), none]) (st1 := []) (s1 := z7) rfl ?_
      refine lp (fun (i8 : Nat) (a8 : SG × Int32 × Int32) => ∀ (u8_6 : Option Value), UP m_X6_stroke 21 [some (.ref 0), some (.int minute), some (.int what), some (.int a8.2.1), some (.int a8.2.2), some (.int (Int32.ofNat i8)), u8_6] [] a8.1 (Qb (let z7 := F_take s ; let z8 := itr (B_cstroke_21 minute) 0 4 (z7, (-1), (-1)); let v12 := bif m_cmp .ne what 0 then z8.2.2 else z8.2.1; (v12, z8.1)))) (fun (_ : Nat) (a8 : SG × Int32 × Int32) => Fr W_cstroke z7 a8.1) (B_cstroke_21 minute) (4) (fun i8 a8 hi8 g8 => g8.tr (fr_B_cstroke_21 minute i8 a8 hi8)) (fun i8 a8 hi8 g8 kk => ?_) 4 (0) (z7, (-1), (-1)) (by omega) (Fr.rf _ _) (fun z8 e8 g8 => ?_) none
      · skip
        intro u8_6
        refine UP.stp 2 (i1 := 23) (L1 := [some (.ref 0), some (.int minute), some (.int what), some (.int a8.2.1), some (.int a8.2.2), some (.int (Int32.ofNat i8)), u8_6]) (st1 := [.int 3, .int (Int32.ofNat i8)]) (s1 := a8.1) rfl ?_
        refine UP.icF rfl (gt_F (show i8 ≤ (3 : Int32).toNatClampNeg from Nat.le_of_lt_succ hi8) (by decide)) ?_
        refine UP.stp 7 (i1 := 31) (L1 := [some (.ref 0), some (.int minute), some (.int what), some (.int a8.2.1), some (.int a8.2.2), some (.int (Int32.ofNat i8)), u8_6]) (st1 := [.ref 0]) (s1 := (uset a8.1 56 minute.toNatClampNeg (Int32.ofNat i8))) rfl ?_
        refine UP.cR (M1 := m_X6_rowOther) (as := [.ref 0]) (rest := []) (T := F_rowOther (uset a8.1 56 minute.toNatClampNeg (Int32.ofNat i8)) ) (a := 58) rfl rfl (ux_rowOther (uset a8.1 56 minute.toNatClampNeg (Int32.ofNat i8)) ) (fun z9 e9 => ?_)
        refine UP.stp 3 (i1 := 35) (L1 := [some (.ref 0), some (.int minute), some (.int what), some (.int a8.2.1), some (.int a8.2.2), some (.int (Int32.ofNat i8)), u8_6]) (st1 := [.int (z9 59 23)]) (s1 := z9) rfl ?_
        refine nm (G := fun v10 => UP m_X6_stroke 35 [some (.ref 0), some (.int minute), some (.int what), some (.int a8.2.1), some (.int a8.2.2), some (.int (Int32.ofNat i8)), u8_6] [.int v10] z9 (Qb (let z7 := F_take s ; let z8 := itr (B_cstroke_21 minute) 0 4 (z7, (-1), (-1)); let v12 := bif m_cmp .ne what 0 then z8.2.2 else z8.2.1; (v12, z8.1)))) (z9 59 23) (fun v10 e10 => ?_)
        refine UP.stp 3 (i1 := 38) (L1 := [some (.ref 0), some (.int minute), some (.int what), some (.int a8.2.1), some (.int a8.2.2), some (.int (Int32.ofNat i8)), some (.int v10)]) (st1 := [.int a8.2.2, .int v10]) (s1 := z9) rfl ?_
        refine mrg (m_cmp .le v10 a8.2.2) (a8.2.1, a8.2.2) (Int32.ofNat i8, v10) (fun w11 : Int32 × Int32 => UP m_X6_stroke 43 [some (.ref 0), some (.int minute), some (.int what), some (.int w11.1), some (.int w11.2), some (.int (Int32.ofNat i8)), some (.int v10)] [] z9 (Qb (let z7 := F_take s ; let z8 := itr (B_cstroke_21 minute) 0 4 (z7, (-1), (-1)); let v12 := bif m_cmp .ne what 0 then z8.2.2 else z8.2.1; (v12, z8.1)))) (fun cc kk => ?_) (fun cc kk => ?_) (fun w11 e11 => ?_)
        · skip
          refine UP.icT rfl cc ?_
          exact kk
        · skip
          refine UP.icF rfl cc ?_
          refine UP.stp 4 (i1 := 43) (L1 := [some (.ref 0), some (.int minute), some (.int what), some (.int (Int32.ofNat i8)), some (.int v10), some (.int (Int32.ofNat i8)), some (.int v10)]) (st1 := []) (s1 := z9) rfl ?_
          exact kk
        refine UP.stp 2 (i1 := 21) (L1 := [some (.ref 0), some (.int minute), some (.int what), some (.int w11.1), some (.int w11.2), some (.int ((Int32.ofNat i8) + 1)), some (.int v10)]) (st1 := []) (s1 := z9) rfl ?_
        subst e11 e10 e9
        rw [ofn_s]
        exact kk _
      intro u8_6
      refine UP.stp 2 (i1 := 23) (L1 := [some (.ref 0), some (.int minute), some (.int what), some (.int z8.2.1), some (.int z8.2.2), some (.int (Int32.ofNat 4)), u8_6]) (st1 := [.int 3, .int (Int32.ofNat 4)]) (s1 := z8.1) rfl ?_
      refine UP.icT rfl (gt_T (v := 3) (by decide) (by decide)) ?_
      refine UP.stp 1 (i1 := 46) (L1 := [some (.ref 0), some (.int minute), some (.int what), some (.int z8.2.1), some (.int z8.2.2), some (.int (Int32.ofNat 4)), u8_6]) (st1 := [.int what]) (s1 := z8.1) rfl ?_
      refine mrg (m_cmp .ne what 0) z8.2.2 z8.2.1 (fun v12 : Int32 => UP m_X6_stroke 50 [some (.ref 0), some (.int minute), some (.int what), some (.int z8.2.1), some (.int z8.2.2), some (.int (Int32.ofNat 4)), u8_6] [.int v12] z8.1 (Qb (let z7 := F_take s ; let z8 := itr (B_cstroke_21 minute) 0 4 (z7, (-1), (-1)); let v12 := bif m_cmp .ne what 0 then z8.2.2 else z8.2.1; (v12, z8.1)))) (fun cc kk => ?_) (fun cc kk => ?_) (fun v12 e12 => ?_)
      · skip
        refine UP.ifT rfl cc ?_
        refine UP.stp 1 (i1 := 50) (L1 := [some (.ref 0), some (.int minute), some (.int what), some (.int z8.2.1), some (.int z8.2.2), some (.int (Int32.ofNat 4)), u8_6]) (st1 := [.int z8.2.2]) (s1 := z8.1) rfl ?_
        exact kk
      · skip
        refine UP.ifF rfl cc ?_
        refine UP.stp 2 (i1 := 50) (L1 := [some (.ref 0), some (.int minute), some (.int what), some (.int z8.2.1), some (.int z8.2.2), some (.int (Int32.ofNat 4)), u8_6]) (st1 := [.int z8.2.1]) (s1 := z8.1) rfl ?_
        exact kk
      exact UP.ret (r := some (.int v12)) rfl ⟨by subst e12 e8 e7; rfl, by subst e12 e8 e7; rfl⟩
    · skip
      refine UP.ifF rfl cc ?_
      refine UP.stp 1 (i1 := 9) (L1 := [some (.ref 0), some (.int minute), some (.int what), none, none, none, none]) (st1 := [.int (-2)]) (s1 := s) rfl ?_
      exact UP.ret (r := some (.int (-2))) rfl ⟨by rfl, by rfl⟩
def W_cyears : List (Nat × Nat × Option Nat) := [(16, 20, none), (22, 45, none), (46, 52, none), (15, 15, some 8), (59, 63, none), (65, 88, none), (89, 95, none), (58, 58, some 8), (54, 57, none), (53, 53, none), (96, 108, none), (0, 0, some 12), (0, 0, some 13)]
def B_cyears_19 (n : Int32) (i8 : Nat) (a8 : SG × Int32) : SG × Int32 := let v9 := (1103515245 * a8.2) + 12345; let v10 := bif m_cmp .ge (Int32.ofNat i8) n then (2 : Int32) else ((v9.toUInt32 >>> (16.toUInt32 &&& Int32.toUInt32 31)).toInt32) - ((v9.toUInt32 >>> (16.toUInt32 &&& Int32.toUInt32 31)).toInt32) / 4 * 4; ((uset a8.1 56 i8 v10), v9)
theorem fr_B_cyears_19 (n : Int32) (i8 : Nat) (a8 : SG × Int32)  (hi8 : i8 < 24) : Fr W_cyears a8.1 ((B_cyears_19 n) i8 a8).1 := by dsimp only [B_cyears_19]; exact (let v9 : Int32 := (1103515245 * a8.2) + 12345; (let v10 : Int32 := bif m_cmp .ge (Int32.ofNat i8) n then (2 : Int32) else ((v9.toUInt32 >>> (16.toUInt32 &&& Int32.toUInt32 31)).toInt32) - ((v9.toUInt32 >>> (16.toUInt32 &&& Int32.toUInt32 31)).toInt32) / 4 * 4; (Fr.uset (s1 := a8.1) (a := 56) (j := i8) (x := v10) (by rfl) (Fr.rf _ _))))
def F_cyears (s : SG) (seed : Int32) (n : Int32) (what : Int32) : Int32 × SG := bif m_cmp .eq (F_isBelow s n 25) 0 then (((-2), s)) else (bif m_cmp .ne (F_isBelow s what 2) 0 then (let z7 := F_take s ; let z8 := itr (B_cyears_19 n) 0 24 (z7, seed); let z11 := F_rowOther z8.1 ; let v12 := bif m_cmp .ne what 0 then z11 60 23 else z11 59 23; (v12, z11)) else (((-2), s)))
theorem fr_cyears (s : SG) (seed : Int32) (n : Int32) (what : Int32)  : Fr W_cyears s (F_cyears s seed n what).2 := by dsimp only [F_cyears]; exact (Fr.bifp (b := m_cmp .eq (F_isBelow s n 25) 0) (x := ((-2), s)) (y := bif m_cmp .ne (F_isBelow s what 2) 0 then (let z7 := F_take s ; let z8 := itr (B_cyears_19 n) 0 24 (z7, seed); let z11 := F_rowOther z8.1 ; let v12 := bif m_cmp .ne what 0 then z11 60 23 else z11 59 23; (v12, z11)) else (((-2), s))) (fun x : Int32 × SG => x.2) (Fr.rf _ _) (Fr.bifp (b := m_cmp .ne (F_isBelow s what 2) 0) (x := let z7 := F_take s ; let z8 := itr (B_cyears_19 n) 0 24 (z7, seed); let z11 := F_rowOther z8.1 ; let v12 := bif m_cmp .ne what 0 then z11 60 23 else z11 59 23; (v12, z11)) (y := ((-2), s)) (fun x : Int32 × SG => x.2) (let z7 : SG := F_take s ; (let z8 : SG × Int32 := itr (B_cyears_19 n) 0 24 (z7, seed); (Fr.tr (s1 := z8.1) (frItrB (W := W_cyears) (m := (fun x : SG × Int32 => x.1)) 24 (fun i a h => Fr.wk (W2 := W_cyears) (fr_B_cyears_19 n i a  h) (by rfl)) _ _ _ (by omega) (Fr.tr (s1 := s) (Fr.rf _ _) (Fr.wk (W2 := W_cyears) (fr_take s ) (by rfl)))) (Fr.wk (W2 := W_cyears) (fr_rowOther z8.1 ) (by rfl))))) (Fr.rf _ _)))
theorem ux_cyears (s : SG) (seed : Int32) (n : Int32) (what : Int32)  : UP m_X6_years 0 (m_ent 6 [.ref 0, .int seed, .int n, .int what]) [] s (Qb (F_cyears s seed n what)) := by
  refine UP.stp 2 (i1 := 2) (L1 := [some (.ref 0), some (.int seed), some (.int n), some (.int what), none, none]) (st1 := [.int 25, .int n]) (s1 := s) rfl ?_
  refine UP.cI (M1 := m_X6_isBelow) (as := [.int n, .int 25]) (rest := []) (T := F_isBelow s n 25) rfl rfl (ux_isBelow s n 25) ?_
  refine UP.spl (m_cmp .eq (F_isBelow s n 25) 0) (((-2), s)) (bif m_cmp .ne (F_isBelow s what 2) 0 then (let z7 := F_take s ; let z8 := itr (B_cyears_19 n) 0 24 (z7, seed); let z11 := F_rowOther z8.1 ; let v12 := bif m_cmp .ne what 0 then z11 60 23 else z11 59 23; (v12, z11)) else (((-2), s))) (by rfl) (fun cc => ?_) (fun cc => ?_)
  · skip
    refine UP.ifT rfl cc ?_
    refine UP.stp 1 (i1 := 9) (L1 := [some (.ref 0), some (.int seed), some (.int n), some (.int what), none, none]) (st1 := [.int (-2)]) (s1 := s) rfl ?_
    exact UP.ret (r := some (.int (-2))) rfl ⟨by rfl, by rfl⟩
  · skip
    refine UP.ifF rfl cc ?_
    refine UP.stp 2 (i1 := 6) (L1 := [some (.ref 0), some (.int seed), some (.int n), some (.int what), none, none]) (st1 := [.int 2, .int what]) (s1 := s) rfl ?_
    refine UP.cI (M1 := m_X6_isBelow) (as := [.int what, .int 2]) (rest := []) (T := F_isBelow s what 2) rfl rfl (ux_isBelow s what 2) ?_
    refine UP.spl (m_cmp .ne (F_isBelow s what 2) 0) (let z7 := F_take s ; let z8 := itr (B_cyears_19 n) 0 24 (z7, seed); let z11 := F_rowOther z8.1 ; let v12 := bif m_cmp .ne what 0 then z11 60 23 else z11 59 23; (v12, z11)) (((-2), s)) (by rfl) (fun cc => ?_) (fun cc => ?_)
    · skip
      refine UP.ifT rfl cc ?_
      refine UP.stp 4 (i1 := 14) (L1 := [some (.ref 0), some (.int seed), some (.int n), some (.int what), none, none]) (st1 := [.ref 10, .ref 53]) (s1 := s) rfl ?_
      refine UP.cV (M1 := m_X0_take) (as := [.ref 53, .ref 10]) (rest := []) (T := F_take s ) rfl rfl (ux_take s ) (fun z7 e7 => ?_)
      refine UP.stp 4 (i1 := 19) (L1 := [some (.ref 0), some (.int seed), some (.int n), some (.int what), some (.int seed), some (.int 0)]) (st1 := []) (s1 := z7) rfl ?_
      refine lp (fun (i8 : Nat) (a8 : SG × Int32) => ∀ (u8_1 : Option Value), UP m_X6_years 19 [some (.ref 0), u8_1, some (.int n), some (.int what), some (.int a8.2), some (.int (Int32.ofNat i8))] [] a8.1 (Qb (let z7 := F_take s ; let z8 := itr (B_cyears_19 n) 0 24 (z7, seed); let z11 := F_rowOther z8.1 ; let v12 := bif m_cmp .ne what 0 then z11 60 23 else z11 59 23; (v12, z11)))) (fun (_ : Nat) (a8 : SG × Int32) => Fr W_cyears z7 a8.1) (B_cyears_19 n) (24) (fun i8 a8 hi8 g8 => g8.tr (fr_B_cyears_19 n i8 a8 hi8)) (fun i8 a8 hi8 g8 kk => ?_) 24 (0) (z7, seed) (by omega) (Fr.rf _ _) (fun z8 e8 g8 => ?_) (some (.int seed))
      · skip
        intro u8_1
        refine UP.stp 2 (i1 := 21) (L1 := [some (.ref 0), u8_1, some (.int n), some (.int what), some (.int a8.2), some (.int (Int32.ofNat i8))]) (st1 := [.int 24, .int (Int32.ofNat i8)]) (s1 := a8.1) rfl ?_
        refine UP.icF rfl (ge_F (show i8 < (24 : Int32).toNatClampNeg from hi8)) ?_
        refine UP.stp 5 (i1 := 27) (L1 := [some (.ref 0), u8_1, some (.int n), some (.int what), some (.int a8.2), some (.int (Int32.ofNat i8))]) (st1 := [.int ((1103515245 * a8.2) + 12345)]) (s1 := a8.1) rfl ?_
        refine nm (G := fun v9 => UP m_X6_years 27 [some (.ref 0), u8_1, some (.int n), some (.int what), some (.int a8.2), some (.int (Int32.ofNat i8))] [.int v9] a8.1 (Qb (let z7 := F_take s ; let z8 := itr (B_cyears_19 n) 0 24 (z7, seed); let z11 := F_rowOther z8.1 ; let v12 := bif m_cmp .ne what 0 then z11 60 23 else z11 59 23; (v12, z11)))) ((1103515245 * a8.2) + 12345) (fun v9 e9 => ?_)
        refine UP.stp 7 (i1 := 34) (L1 := [some (.ref 0), u8_1, some (.int n), some (.int what), some (.int v9), some (.int (Int32.ofNat i8))]) (st1 := [.int n, .int (Int32.ofNat i8), .int (Int32.ofNat i8), .ref 56]) (s1 := a8.1) rfl ?_
        refine mrg (m_cmp .ge (Int32.ofNat i8) n) (2 : Int32) (((v9.toUInt32 >>> (16.toUInt32 &&& Int32.toUInt32 31)).toInt32) - ((v9.toUInt32 >>> (16.toUInt32 &&& Int32.toUInt32 31)).toInt32) / 4 * 4) (fun v10 : Int32 => UP m_X6_years 42 [some (.ref 0), u8_1, some (.int n), some (.int what), some (.int v9), some (.int (Int32.ofNat i8))] [.int v10, .int (Int32.ofNat i8), .ref 56] a8.1 (Qb (let z7 := F_take s ; let z8 := itr (B_cyears_19 n) 0 24 (z7, seed); let z11 := F_rowOther z8.1 ; let v12 := bif m_cmp .ne what 0 then z11 60 23 else z11 59 23; (v12, z11)))) (fun cc kk => ?_) (fun cc kk => ?_) (fun v10 e10 => ?_)
        · skip
          refine UP.icT rfl cc ?_
          refine UP.stp 1 (i1 := 42) (L1 := [some (.ref 0), u8_1, some (.int n), some (.int what), some (.int v9), some (.int (Int32.ofNat i8))]) (st1 := [.int 2, .int (Int32.ofNat i8), .ref 56]) (s1 := a8.1) rfl ?_
          exact kk
        · skip
          refine UP.icF rfl cc ?_
          refine UP.stp 6 (i1 := 42) (L1 := [some (.ref 0), u8_1, some (.int n), some (.int what), some (.int v9), some (.int (Int32.ofNat i8))]) (st1 := [.int (((v9.toUInt32 >>> (16.toUInt32 &&& Int32.toUInt32 31)).toInt32) - ((v9.toUInt32 >>> (16.toUInt32 &&& Int32.toUInt32 31)).toInt32) / 4 * 4), .int (Int32.ofNat i8), .ref 56]) (s1 := a8.1) rfl ?_
          exact kk
        refine UP.ast (e := i8) rfl rfl (by omega) ?_
        show UP m_X6_years 43 [some (.ref 0), u8_1, some (.int n), some (.int what), some (.int v9), some (.int (Int32.ofNat i8))] [] (uset a8.1 56 i8 v10) (Qb (let z7 := F_take s ; let z8 := itr (B_cyears_19 n) 0 24 (z7, seed); let z11 := F_rowOther z8.1 ; let v12 := bif m_cmp .ne what 0 then z11 60 23 else z11 59 23; (v12, z11)))
        refine UP.stp 2 (i1 := 19) (L1 := [some (.ref 0), u8_1, some (.int n), some (.int what), some (.int v9), some (.int ((Int32.ofNat i8) + 1))]) (st1 := []) (s1 := (uset a8.1 56 i8 v10)) rfl ?_
        subst e10 e9
        rw [ofn_s]
        exact kk _
      intro u8_1
      refine UP.stp 2 (i1 := 21) (L1 := [some (.ref 0), u8_1, some (.int n), some (.int what), some (.int z8.2), some (.int (Int32.ofNat 24))]) (st1 := [.int 24, .int (Int32.ofNat 24)]) (s1 := z8.1) rfl ?_
      refine UP.icT rfl (ge_T (24 : Int32)) ?_
      refine UP.stp 1 (i1 := 46) (L1 := [some (.ref 0), u8_1, some (.int n), some (.int what), some (.int z8.2), some (.int (Int32.ofNat 24))]) (st1 := [.ref 0]) (s1 := z8.1) rfl ?_
      refine UP.cR (M1 := m_X6_rowOther) (as := [.ref 0]) (rest := []) (T := F_rowOther z8.1 ) (a := 58) rfl rfl (ux_rowOther z8.1 ) (fun z11 e11 => ?_)
      refine UP.stp 2 (i1 := 49) (L1 := [some (.ref 0), u8_1, some (.int n), some (.int what), some (.int z8.2), some (.ref 58)]) (st1 := [.int what]) (s1 := z11) rfl ?_
      refine mrg (m_cmp .ne what 0) (z11 60 23) (z11 59 23) (fun v12 : Int32 => UP m_X6_years 59 [some (.ref 0), u8_1, some (.int n), some (.int what), some (.int z8.2), some (.ref 58)] [.int v12] z11 (Qb (let z7 := F_take s ; let z8 := itr (B_cyears_19 n) 0 24 (z7, seed); let z11 := F_rowOther z8.1 ; let v12 := bif m_cmp .ne what 0 then z11 60 23 else z11 59 23; (v12, z11)))) (fun cc kk => ?_) (fun cc kk => ?_) (fun v12 e12 => ?_)
      · skip
        refine UP.ifT rfl cc ?_
        refine UP.stp 4 (i1 := 59) (L1 := [some (.ref 0), u8_1, some (.int n), some (.int what), some (.int z8.2), some (.ref 58)]) (st1 := [.int (z11 60 23)]) (s1 := z11) rfl ?_
        exact kk
      · skip
        refine UP.ifF rfl cc ?_
        refine UP.stp 5 (i1 := 59) (L1 := [some (.ref 0), u8_1, some (.int n), some (.int what), some (.int z8.2), some (.ref 58)]) (st1 := [.int (z11 59 23)]) (s1 := z11) rfl ?_
        exact kk
      exact UP.ret (r := some (.int v12)) rfl ⟨by subst e12 e11 e8 e7; rfl, by subst e12 e11 e8 e7; rfl⟩
    · skip
      refine UP.ifF rfl cc ?_
      refine UP.stp 1 (i1 := 9) (L1 := [some (.ref 0), some (.int seed), some (.int n), some (.int what), none, none]) (st1 := [.int (-2)]) (s1 := s) rfl ?_
      exact UP.ret (r := some (.int (-2))) rfl ⟨by rfl, by rfl⟩
def W_agreeWith : List (Nat × Nat × Option Nat) := []
def B_agreeWith_2 (s : SG) (i1 : Nat) (a1 : Unit) : (Unit) ⊕ (Int32) := bif m_cmp .eq (s 60 ((s 7 i1).toNatClampNeg)) (s 8 i1) then (.inl ()) else (.inr 0)
def F_agreeWith (s : SG)  : Int32 := Sum.elim (fun z1 : Unit => 1) (fun x : Nat × (Int32) => x.2) (itx (B_agreeWith_2 s) 0 ((s 6 2).toNatClampNeg) ())
theorem ux_agreeWith (s : SG)   : UP m_X2_agreeWith 0 (m_ent 3 [.ref 6, .ref 58]) [] s (Qi s (F_agreeWith s)) := by
  refine UP.stp 2 (i1 := 2) (L1 := [some (.ref 6), some (.ref 58), some (.int 0)]) (st1 := []) (s1 := s) rfl ?_
  refine lpx (fun (i1 : Nat) (a1 : Unit) => UP m_X2_agreeWith 2 [some (.ref 6), some (.ref 58), some (.int (Int32.ofNat i1))] [] s (Qi s (F_agreeWith s))) (fun (_ : Nat) (b1 : Int32) => (F_agreeWith s) = b1) (fun (_ : Nat) (a1 : Unit) => Fr W_agreeWith s s) (B_agreeWith_2 s) ((s 6 2).toNatClampNeg) (fun i1 a1 x1 hi1 g1 e => g1) (fun i1 a1 hi1 g1 kk => ?_) ((s 6 2).toNatClampNeg) (0) () (by omega) (Fr.rf _ _) (fun z1 e1 g1 => ?_) (fun i1 a1 b1 e1 hi1 g1 f1 => by have q : (F_agreeWith s) = Sum.elim (fun z1 : Unit => 1) (fun x : Nat × (Int32) => x.2) (itx (B_agreeWith_2 s) 0 ((s 6 2).toNatClampNeg) ()) := (by rfl); rw [q, e1]; rfl)
  · skip
    have hbi1 := cl_lt (s 6 2)
    refine UP.stp 3 (i1 := 5) (L1 := [some (.ref 6), some (.ref 58), some (.int (Int32.ofNat i1))]) (st1 := [.int (s 6 2), .int (Int32.ofNat i1)]) (s1 := s) rfl ?_
    refine UP.icF rfl (ge_F hi1) ?_
    refine UP.stp 5 (i1 := 11) (L1 := [some (.ref 6), some (.ref 58), some (.int (Int32.ofNat i1))]) (st1 := [.int (Int32.ofNat i1), .ref 7, .ref 60]) (s1 := s) rfl ?_
    refine UP.ald (e := i1) rfl rfl (by omega) ?_
    show UP m_X2_agreeWith 12 [some (.ref 6), some (.ref 58), some (.int (Int32.ofNat i1))] [.int (s 7 i1), .ref 60] s (Qi s (F_agreeWith s))
    refine UP.stp 4 (i1 := 16) (L1 := [some (.ref 6), some (.ref 58), some (.int (Int32.ofNat i1))]) (st1 := [.int (Int32.ofNat i1), .ref 8, .int (s 60 ((s 7 i1).toNatClampNeg))]) (s1 := s) rfl ?_
    refine UP.ald (e := i1) rfl rfl (by omega) ?_
    show UP m_X2_agreeWith 17 [some (.ref 6), some (.ref 58), some (.int (Int32.ofNat i1))] [.int (s 8 i1), .int (s 60 ((s 7 i1).toNatClampNeg))] s (Qi s (F_agreeWith s))
    refine brk (K := (Kx (fun (i1 : Nat) (a1 : Unit) => UP m_X2_agreeWith 2 [some (.ref 6), some (.ref 58), some (.int (Int32.ofNat i1))] [] s (Qi s (F_agreeWith s))) (fun (_ : Nat) (b1 : Int32) => (F_agreeWith s) = b1) i1)) (m_cmp .eq (s 60 ((s 7 i1).toNatClampNeg)) (s 8 i1)) (.inl ()) (.inr 0) (by exact kk) (fun cc kk => ?_) (fun cc kk => ?_)
    · skip
      refine UP.icT rfl cc ?_
      refine UP.stp 2 (i1 := 2) (L1 := [some (.ref 6), some (.ref 58), some (.int ((Int32.ofNat i1) + 1))]) (st1 := []) (s1 := s) rfl ?_
      rw [ofn_s]
      exact kk
    · skip
      refine UP.icF rfl cc ?_
      refine UP.stp 1 (i1 := 19) (L1 := [some (.ref 6), some (.ref 58), some (.int (Int32.ofNat i1))]) (st1 := [.int 0]) (s1 := s) rfl ?_
      have kk : (F_agreeWith s) = 0 := by exact kk
      exact UP.ret (r := some (.int 0)) rfl ⟨by rw [kk], by rw [kk]⟩
  · skip
    refine UP.eqT (1) (by have q : (F_agreeWith s) = Sum.elim (fun z1 : Unit => 1) (fun x : Nat × (Int32) => x.2) (itx (B_agreeWith_2 s) 0 ((s 6 2).toNatClampNeg) ()) := (by rfl); rw [q, e1]; rfl) ?_
    refine UP.stp 3 (i1 := 5) (L1 := [some (.ref 6), some (.ref 58), some (.int (Int32.ofNat ((s 6 2).toNatClampNeg)))]) (st1 := [.int (s 6 2), .int (Int32.ofNat ((s 6 2).toNatClampNeg))]) (s1 := s) rfl ?_
    refine UP.icT rfl (ge_T _) ?_
    refine UP.stp 1 (i1 := 23) (L1 := [some (.ref 6), some (.ref 58), some (.int (Int32.ofNat ((s 6 2).toNatClampNeg)))]) (st1 := [.int 1]) (s1 := s) rfl ?_
    exact UP.ret (r := some (.int 1)) rfl ⟨by rfl, by rfl⟩
def W_cnever : List (Nat × Nat × Option Nat) := [(16, 20, none), (22, 45, none), (46, 52, none), (15, 15, some 8), (59, 63, none), (65, 88, none), (89, 95, none), (58, 58, some 8), (54, 57, none), (53, 53, none), (96, 108, none), (0, 0, some 12), (0, 0, some 13)]
def B_cnever_4  (i1 : Nat) (a1 : SG × Int32) : SG × Int32 := let z2 := F_row_c a1.1 (255 &&& ((1 <<< ((Int32.ofNat i1) &&& 31)) ^^^ (-1))); let v5 := bif m_cmp .eq (F_agreeWith z2) 0 then a1.2 else (a1.2 ||| (1 <<< ((Int32.ofNat i1) &&& 31))); (z2, v5)
theorem fr_B_cnever_4  (i1 : Nat) (a1 : SG × Int32)   : Fr W_cnever a1.1 ((B_cnever_4) i1 a1).1 := by dsimp only [B_cnever_4]; exact (Fr.tr (s1 := a1.1) (Fr.rf _ _) (Fr.wk (W2 := W_cnever) (fr_row_c a1.1 (255 &&& ((1 <<< ((Int32.ofNat i1) &&& 31)) ^^^ (-1)))) (by rfl)))
def F_cnever (s : SG)  : Int32 × SG := let z1 := itr (B_cnever_4) 0 ((s 2 3).toNatClampNeg) (s, 0); (z1.2, z1.1)
theorem fr_cnever (s : SG)   : Fr W_cnever s (F_cnever s).2 := by dsimp only [F_cnever]; exact (Fr.itr (W := W_cnever) (m := (fun x : SG × Int32 => x.1)) (fun i a => Fr.wk (W2 := W_cnever) (fr_B_cnever_4  i a ) (by rfl)) _ _ _ (Fr.rf _ _))
theorem ux_cnever (s : SG)   : UP m_X6_never 0 (m_ent 3 [.ref 0]) [] s (Qb (F_cnever s)) := by
  refine UP.stp 4 (i1 := 4) (L1 := [some (.ref 0), some (.int 0), some (.int 0)]) (st1 := []) (s1 := s) rfl ?_
  refine lp (fun (i1 : Nat) (a1 : SG × Int32) => UP m_X6_never 4 [some (.ref 0), some (.int a1.2), some (.int (Int32.ofNat i1))] [] a1.1 (Qb (F_cnever s))) (fun (_ : Nat) (a1 : SG × Int32) => Fr W_cnever s a1.1) (B_cnever_4) ((s 2 3).toNatClampNeg) (fun i1 a1 hi1 g1 => g1.tr (fr_B_cnever_4  i1 a1 )) (fun i1 a1 hi1 g1 kk => ?_) ((s 2 3).toNatClampNeg) (0) (s, 0) (by omega) (Fr.rf _ _) (fun z1 e1 g1 => ?_)
  · skip
    have hbi1 := cl_lt (s 2 3)
    refine UP.stp 4 (i1 := 8) (L1 := [some (.ref 0), some (.int a1.2), some (.int (Int32.ofNat i1))]) (st1 := [.int (a1.1 2 3), .int (Int32.ofNat i1)]) (s1 := a1.1) rfl ?_
    refine UP.icF rfl (by rw [(g1 2 3 rfl)]; exact ge_F hi1) ?_
    refine UP.stp 13 (i1 := 22) (L1 := [some (.ref 0), some (.int a1.2), some (.int (Int32.ofNat i1))]) (st1 := [.int (255 &&& ((1 <<< ((Int32.ofNat i1) &&& 31)) ^^^ (-1))), .ref 2, .ref 10, .ref 58]) (s1 := a1.1) rfl ?_
    refine UP.cV (M1 := m_X5_row) (as := [.ref 58, .ref 10, .ref 2, .int (255 &&& ((1 <<< ((Int32.ofNat i1) &&& 31)) ^^^ (-1)))]) (rest := []) (T := F_row_c a1.1 (255 &&& ((1 <<< ((Int32.ofNat i1) &&& 31)) ^^^ (-1)))) rfl rfl (ux_row_c a1.1 (255 &&& ((1 <<< ((Int32.ofNat i1) &&& 31)) ^^^ (-1)))) (fun z2 e2 => ?_)
    refine UP.stp 4 (i1 := 27) (L1 := [some (.ref 0), some (.int a1.2), some (.int (Int32.ofNat i1))]) (st1 := [.ref 58, .ref 6]) (s1 := z2) rfl ?_
    refine UP.cI (M1 := m_X2_agreeWith) (as := [.ref 6, .ref 58]) (rest := []) (T := F_agreeWith z2 ) rfl rfl (ux_agreeWith z2 ) ?_
    refine mrg (m_cmp .eq (F_agreeWith z2) 0) a1.2 (a1.2 ||| (1 <<< ((Int32.ofNat i1) &&& 31))) (fun v5 : Int32 => UP m_X6_never 35 [some (.ref 0), some (.int v5), some (.int (Int32.ofNat i1))] [] z2 (Qb (F_cnever s))) (fun cc kk => ?_) (fun cc kk => ?_) (fun v5 e5 => ?_)
    · skip
      refine UP.ifT rfl cc ?_
      exact kk
    · skip
      refine UP.ifF rfl cc ?_
      refine UP.stp 5 (i1 := 34) (L1 := [some (.ref 0), some (.int a1.2), some (.int (Int32.ofNat i1))]) (st1 := [.int (a1.2 ||| (1 <<< ((Int32.ofNat i1) &&& 31)))]) (s1 := z2) rfl ?_
      refine nm (G := fun v4 => UP m_X6_never 34 [some (.ref 0), some (.int a1.2), some (.int (Int32.ofNat i1))] [.int v4] z2 (Qb (F_cnever s))) (a1.2 ||| (1 <<< ((Int32.ofNat i1) &&& 31))) (fun v4 e4 => ?_)
      refine UP.stp 1 (i1 := 35) (L1 := [some (.ref 0), some (.int v4), some (.int (Int32.ofNat i1))]) (st1 := []) (s1 := z2) rfl ?_
      subst e4
      exact kk
    refine UP.stp 2 (i1 := 4) (L1 := [some (.ref 0), some (.int v5), some (.int ((Int32.ofNat i1) + 1))]) (st1 := []) (s1 := z2) rfl ?_
    subst e5 e2
    rw [ofn_s]
    exact kk
  refine UP.stp 4 (i1 := 8) (L1 := [some (.ref 0), some (.int z1.2), some (.int (Int32.ofNat ((s 2 3).toNatClampNeg)))]) (st1 := [.int (z1.1 2 3), .int (Int32.ofNat ((s 2 3).toNatClampNeg))]) (s1 := z1.1) rfl ?_
  refine UP.icT rfl (by rw [(g1 2 3 rfl)]; exact ge_T _) ?_
  refine UP.stp 1 (i1 := 38) (L1 := [some (.ref 0), some (.int z1.2), some (.int (Int32.ofNat ((s 2 3).toNatClampNeg)))]) (st1 := [.int z1.2]) (s1 := z1.1) rfl ?_
  exact UP.ret (r := some (.int z1.2)) rfl ⟨by subst e1; rfl, by subst e1; rfl⟩
