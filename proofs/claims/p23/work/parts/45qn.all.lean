section
/-! copy (printed by wip/u/mk_sh.py) -/
def G_hr (q : Nat) (s : SG) (f m : Int32) : Bool := bif m_cmp .lt f 0 then false else (bif m_cmp .lt m 0 then false else !(m_cmp .gt f ((s (115 + 2 * q) 3) - m)))
def G_ccopy (q r : Nat) (s : SG) (i j n : Int32) : Int32 × SG := bif m_cmp .ne (s (115 + 2 * q) 1) 0 then F_find s 1 else (bif m_cmp .eq (s (115 + 2 * r) 1) 0 then (bif m_cmp .eq (s (115 + 2 * q) 2) (s (115 + 2 * r) 2) then (bif G_hr q s i n then (bif G_hr r s j n then (1, mvs s (116 + 2 * q) i.toNatClampNeg (116 + 2 * r) j.toNatClampNeg n.toNatClampNeg) else F_find s 2) else F_find s 2) else F_find s 4) else F_find s 1)
theorem hr_0_e (s : SG) (f m : Int32) : m_cmp .eq (F_hasRange_0 s f m) 0 = !(G_hr 0 s f m) := by
  dsimp only [F_hasRange_0, G_hr]
  cases m_cmp .lt f 0
  · cases m_cmp .lt m 0
    · cases m_cmp .gt f ((s 115 3) - m) <;> rfl
    · rfl
  · rfl
theorem hr_0_n (s : SG) (f m : Int32) : m_cmp .ne (F_hasRange_0 s f m) 0 = G_hr 0 s f m := by
  dsimp only [F_hasRange_0, G_hr]
  cases m_cmp .lt f 0
  · cases m_cmp .lt m 0
    · cases m_cmp .gt f ((s 115 3) - m) <;> rfl
    · rfl
  · rfl
theorem hr_1_e (s : SG) (f m : Int32) : m_cmp .eq (F_hasRange_1 s f m) 0 = !(G_hr 1 s f m) := by
  dsimp only [F_hasRange_1, G_hr]
  cases m_cmp .lt f 0
  · cases m_cmp .lt m 0
    · cases m_cmp .gt f ((s 117 3) - m) <;> rfl
    · rfl
  · rfl
theorem hr_1_n (s : SG) (f m : Int32) : m_cmp .ne (F_hasRange_1 s f m) 0 = G_hr 1 s f m := by
  dsimp only [F_hasRange_1, G_hr]
  cases m_cmp .lt f 0
  · cases m_cmp .lt m 0
    · cases m_cmp .gt f ((s 117 3) - m) <;> rfl
    · rfl
  · rfl
theorem hr_2_e (s : SG) (f m : Int32) : m_cmp .eq (F_hasRange_2 s f m) 0 = !(G_hr 2 s f m) := by
  dsimp only [F_hasRange_2, G_hr]
  cases m_cmp .lt f 0
  · cases m_cmp .lt m 0
    · cases m_cmp .gt f ((s 119 3) - m) <;> rfl
    · rfl
  · rfl
theorem hr_2_n (s : SG) (f m : Int32) : m_cmp .ne (F_hasRange_2 s f m) 0 = G_hr 2 s f m := by
  dsimp only [F_hasRange_2, G_hr]
  cases m_cmp .lt f 0
  · cases m_cmp .lt m 0
    · cases m_cmp .gt f ((s 119 3) - m) <;> rfl
    · rfl
  · rfl
theorem hr_3_e (s : SG) (f m : Int32) : m_cmp .eq (F_hasRange_3 s f m) 0 = !(G_hr 3 s f m) := by
  dsimp only [F_hasRange_3, G_hr]
  cases m_cmp .lt f 0
  · cases m_cmp .lt m 0
    · cases m_cmp .gt f ((s 121 3) - m) <;> rfl
    · rfl
  · rfl
theorem hr_3_n (s : SG) (f m : Int32) : m_cmp .ne (F_hasRange_3 s f m) 0 = G_hr 3 s f m := by
  dsimp only [F_hasRange_3, G_hr]
  cases m_cmp .lt f 0
  · cases m_cmp .lt m 0
    · cases m_cmp .gt f ((s 121 3) - m) <;> rfl
    · rfl
  · rfl
theorem gl_ccopy_00 (s : SG) (i j n : Int32) : F_ccopy_00 s i j n = G_ccopy 0 0 s i j n := by
  have e1 : m_cmp .eq (F_isBelow s 0 4) 0 = false := rfl
  have e2 : m_cmp .ne (F_isBelow s 0 4) 0 = true := rfl
  dsimp only [F_ccopy_00, G_ccopy, Nat.reduceMul, Nat.reduceAdd]
  rw [e1, e2, hr_0_e, hr_0_n, Bool.cond_not, cF, cT]
theorem gl_ccopy_01 (s : SG) (i j n : Int32) : F_ccopy_01 s i j n = G_ccopy 0 1 s i j n := by
  have e1 : m_cmp .eq (F_isBelow s 0 4) 0 = false := rfl
  have e2 : m_cmp .ne (F_isBelow s 1 4) 0 = true := rfl
  dsimp only [F_ccopy_01, G_ccopy, Nat.reduceMul, Nat.reduceAdd]
  rw [e1, e2, hr_0_e, hr_1_n, Bool.cond_not, cF, cT]
theorem gl_ccopy_02 (s : SG) (i j n : Int32) : F_ccopy_02 s i j n = G_ccopy 0 2 s i j n := by
  have e1 : m_cmp .eq (F_isBelow s 0 4) 0 = false := rfl
  have e2 : m_cmp .ne (F_isBelow s 2 4) 0 = true := rfl
  dsimp only [F_ccopy_02, G_ccopy, Nat.reduceMul, Nat.reduceAdd]
  rw [e1, e2, hr_0_e, hr_2_n, Bool.cond_not, cF, cT]
theorem gl_ccopy_03 (s : SG) (i j n : Int32) : F_ccopy_03 s i j n = G_ccopy 0 3 s i j n := by
  have e1 : m_cmp .eq (F_isBelow s 0 4) 0 = false := rfl
  have e2 : m_cmp .ne (F_isBelow s 3 4) 0 = true := rfl
  dsimp only [F_ccopy_03, G_ccopy, Nat.reduceMul, Nat.reduceAdd]
  rw [e1, e2, hr_0_e, hr_3_n, Bool.cond_not, cF, cT]
theorem gl_ccopy_10 (s : SG) (i j n : Int32) : F_ccopy_10 s i j n = G_ccopy 1 0 s i j n := by
  have e1 : m_cmp .eq (F_isBelow s 1 4) 0 = false := rfl
  have e2 : m_cmp .ne (F_isBelow s 0 4) 0 = true := rfl
  dsimp only [F_ccopy_10, G_ccopy, Nat.reduceMul, Nat.reduceAdd]
  rw [e1, e2, hr_1_e, hr_0_n, Bool.cond_not, cF, cT]
theorem gl_ccopy_11 (s : SG) (i j n : Int32) : F_ccopy_11 s i j n = G_ccopy 1 1 s i j n := by
  have e1 : m_cmp .eq (F_isBelow s 1 4) 0 = false := rfl
  have e2 : m_cmp .ne (F_isBelow s 1 4) 0 = true := rfl
  dsimp only [F_ccopy_11, G_ccopy, Nat.reduceMul, Nat.reduceAdd]
  rw [e1, e2, hr_1_e, hr_1_n, Bool.cond_not, cF, cT]
theorem gl_ccopy_12 (s : SG) (i j n : Int32) : F_ccopy_12 s i j n = G_ccopy 1 2 s i j n := by
  have e1 : m_cmp .eq (F_isBelow s 1 4) 0 = false := rfl
  have e2 : m_cmp .ne (F_isBelow s 2 4) 0 = true := rfl
  dsimp only [F_ccopy_12, G_ccopy, Nat.reduceMul, Nat.reduceAdd]
  rw [e1, e2, hr_1_e, hr_2_n, Bool.cond_not, cF, cT]
theorem gl_ccopy_13 (s : SG) (i j n : Int32) : F_ccopy_13 s i j n = G_ccopy 1 3 s i j n := by
  have e1 : m_cmp .eq (F_isBelow s 1 4) 0 = false := rfl
  have e2 : m_cmp .ne (F_isBelow s 3 4) 0 = true := rfl
  dsimp only [F_ccopy_13, G_ccopy, Nat.reduceMul, Nat.reduceAdd]
  rw [e1, e2, hr_1_e, hr_3_n, Bool.cond_not, cF, cT]
theorem gl_ccopy_20 (s : SG) (i j n : Int32) : F_ccopy_20 s i j n = G_ccopy 2 0 s i j n := by
  have e1 : m_cmp .eq (F_isBelow s 2 4) 0 = false := rfl
  have e2 : m_cmp .ne (F_isBelow s 0 4) 0 = true := rfl
  dsimp only [F_ccopy_20, G_ccopy, Nat.reduceMul, Nat.reduceAdd]
  rw [e1, e2, hr_2_e, hr_0_n, Bool.cond_not, cF, cT]
theorem gl_ccopy_21 (s : SG) (i j n : Int32) : F_ccopy_21 s i j n = G_ccopy 2 1 s i j n := by
  have e1 : m_cmp .eq (F_isBelow s 2 4) 0 = false := rfl
  have e2 : m_cmp .ne (F_isBelow s 1 4) 0 = true := rfl
  dsimp only [F_ccopy_21, G_ccopy, Nat.reduceMul, Nat.reduceAdd]
  rw [e1, e2, hr_2_e, hr_1_n, Bool.cond_not, cF, cT]
theorem gl_ccopy_22 (s : SG) (i j n : Int32) : F_ccopy_22 s i j n = G_ccopy 2 2 s i j n := by
  have e1 : m_cmp .eq (F_isBelow s 2 4) 0 = false := rfl
  have e2 : m_cmp .ne (F_isBelow s 2 4) 0 = true := rfl
  dsimp only [F_ccopy_22, G_ccopy, Nat.reduceMul, Nat.reduceAdd]
  rw [e1, e2, hr_2_e, hr_2_n, Bool.cond_not, cF, cT]
theorem gl_ccopy_23 (s : SG) (i j n : Int32) : F_ccopy_23 s i j n = G_ccopy 2 3 s i j n := by
  have e1 : m_cmp .eq (F_isBelow s 2 4) 0 = false := rfl
  have e2 : m_cmp .ne (F_isBelow s 3 4) 0 = true := rfl
  dsimp only [F_ccopy_23, G_ccopy, Nat.reduceMul, Nat.reduceAdd]
  rw [e1, e2, hr_2_e, hr_3_n, Bool.cond_not, cF, cT]
theorem gl_ccopy_30 (s : SG) (i j n : Int32) : F_ccopy_30 s i j n = G_ccopy 3 0 s i j n := by
  have e1 : m_cmp .eq (F_isBelow s 3 4) 0 = false := rfl
  have e2 : m_cmp .ne (F_isBelow s 0 4) 0 = true := rfl
  dsimp only [F_ccopy_30, G_ccopy, Nat.reduceMul, Nat.reduceAdd]
  rw [e1, e2, hr_3_e, hr_0_n, Bool.cond_not, cF, cT]
theorem gl_ccopy_31 (s : SG) (i j n : Int32) : F_ccopy_31 s i j n = G_ccopy 3 1 s i j n := by
  have e1 : m_cmp .eq (F_isBelow s 3 4) 0 = false := rfl
  have e2 : m_cmp .ne (F_isBelow s 1 4) 0 = true := rfl
  dsimp only [F_ccopy_31, G_ccopy, Nat.reduceMul, Nat.reduceAdd]
  rw [e1, e2, hr_3_e, hr_1_n, Bool.cond_not, cF, cT]
theorem gl_ccopy_32 (s : SG) (i j n : Int32) : F_ccopy_32 s i j n = G_ccopy 3 2 s i j n := by
  have e1 : m_cmp .eq (F_isBelow s 3 4) 0 = false := rfl
  have e2 : m_cmp .ne (F_isBelow s 2 4) 0 = true := rfl
  dsimp only [F_ccopy_32, G_ccopy, Nat.reduceMul, Nat.reduceAdd]
  rw [e1, e2, hr_3_e, hr_2_n, Bool.cond_not, cF, cT]
theorem gl_ccopy_33 (s : SG) (i j n : Int32) : F_ccopy_33 s i j n = G_ccopy 3 3 s i j n := by
  have e1 : m_cmp .eq (F_isBelow s 3 4) 0 = false := rfl
  have e2 : m_cmp .ne (F_isBelow s 3 4) 0 = true := rfl
  dsimp only [F_ccopy_33, G_ccopy, Nat.reduceMul, Nat.reduceAdd]
  rw [e1, e2, hr_3_e, hr_3_n, Bool.cond_not, cF, cT]
def F_ccopy (s : SG) (s_ i t j n : Int32) : Int32 × SG := if s_ = 0 then (if t = 0 then F_ccopy_00 s i j n else if t = 1 then F_ccopy_01 s i j n else if t = 2 then F_ccopy_02 s i j n else if t = 3 then F_ccopy_03 s i j n else ((-2), s)) else if s_ = 1 then (if t = 0 then F_ccopy_10 s i j n else if t = 1 then F_ccopy_11 s i j n else if t = 2 then F_ccopy_12 s i j n else if t = 3 then F_ccopy_13 s i j n else ((-2), s)) else if s_ = 2 then (if t = 0 then F_ccopy_20 s i j n else if t = 1 then F_ccopy_21 s i j n else if t = 2 then F_ccopy_22 s i j n else if t = 3 then F_ccopy_23 s i j n else ((-2), s)) else if s_ = 3 then (if t = 0 then F_ccopy_30 s i j n else if t = 1 then F_ccopy_31 s i j n else if t = 2 then F_ccopy_32 s i j n else if t = 3 then F_ccopy_33 s i j n else ((-2), s)) else ((-2), s)
theorem ux_ccopy (s : SG) (s_ i t j n : Int32) : UP m_X6_copy 0 (m_ent 8 [.ref 0, .int s_, .int i, .int t, .int j, .int n]) [] s (Qb (F_ccopy s s_ i t j n)) := by
  unfold F_ccopy
  by_cases e0 : s_ = 0
  · rw [if_pos e0, e0]
    by_cases d0 : t = 0
    · rw [if_pos d0, d0]
      exact ux_ccopy_00 s i j n
    by_cases d1 : t = 1
    · rw [if_neg d0, if_pos d1, d1]
      exact ux_ccopy_01 s i j n
    by_cases d2 : t = 2
    · rw [if_neg d0, if_neg d1, if_pos d2, d2]
      exact ux_ccopy_02 s i j n
    by_cases d3 : t = 3
    · rw [if_neg d0, if_neg d1, if_neg d2, if_pos d3, d3]
      exact ux_ccopy_03 s i j n
    rw [if_neg d0, if_neg d1, if_neg d2, if_neg d3]
    have hb : bl t 4 = false := by
      cases q : bl t 4 with
      | false => rfl
      | true =>
        rcases bl_4.mp q with w | w | w | w
        · exact absurd w d0
        · exact absurd w d1
        · exact absurd w d2
        · exact absurd w d3
    have b1 : bl 0 4 = true := rfl
    refine UP.stp 2 (i1 := 2) (L1 := [some (.ref 0), some (.int 0), some (.int i), some (.int t), some (.int j), some (.int n), none, none]) (st1 := [.int 4, .int 0]) (s1 := s) rfl ?_
    refine UP.cI (M1 := m_X6_isBelow) (as := [.int 0, .int 4]) (rest := []) (T := F_isBelow s 0 4) rfl rfl (ux_isBelow s 0 4) ?_
    refine UP.ifF rfl (by rw [bl_e, b1]; rfl) ?_
    refine UP.stp 2 (i1 := 6) (L1 := [some (.ref 0), some (.int 0), some (.int i), some (.int t), some (.int j), some (.int n), none, none]) (st1 := [.int 4, .int t]) (s1 := s) rfl ?_
    refine UP.cI (M1 := m_X6_isBelow) (as := [.int t, .int 4]) (rest := []) (T := F_isBelow s t 4) rfl rfl (ux_isBelow s t 4) ?_
    refine UP.ifF rfl (by rw [bl_n, hb]) ?_
    refine UP.stp 1 (i1 := 9) (L1 := [some (.ref 0), some (.int 0), some (.int i), some (.int t), some (.int j), some (.int n), none, none]) (st1 := [.int (-2)]) (s1 := s) rfl ?_
    exact UP.ret (r := some (.int (-2))) rfl ⟨rfl, rfl⟩
  by_cases e1 : s_ = 1
  · rw [if_neg e0, if_pos e1, e1]
    by_cases d0 : t = 0
    · rw [if_pos d0, d0]
      exact ux_ccopy_10 s i j n
    by_cases d1 : t = 1
    · rw [if_neg d0, if_pos d1, d1]
      exact ux_ccopy_11 s i j n
    by_cases d2 : t = 2
    · rw [if_neg d0, if_neg d1, if_pos d2, d2]
      exact ux_ccopy_12 s i j n
    by_cases d3 : t = 3
    · rw [if_neg d0, if_neg d1, if_neg d2, if_pos d3, d3]
      exact ux_ccopy_13 s i j n
    rw [if_neg d0, if_neg d1, if_neg d2, if_neg d3]
    have hb : bl t 4 = false := by
      cases q : bl t 4 with
      | false => rfl
      | true =>
        rcases bl_4.mp q with w | w | w | w
        · exact absurd w d0
        · exact absurd w d1
        · exact absurd w d2
        · exact absurd w d3
    have b1 : bl 1 4 = true := rfl
    refine UP.stp 2 (i1 := 2) (L1 := [some (.ref 0), some (.int 1), some (.int i), some (.int t), some (.int j), some (.int n), none, none]) (st1 := [.int 4, .int 1]) (s1 := s) rfl ?_
    refine UP.cI (M1 := m_X6_isBelow) (as := [.int 1, .int 4]) (rest := []) (T := F_isBelow s 1 4) rfl rfl (ux_isBelow s 1 4) ?_
    refine UP.ifF rfl (by rw [bl_e, b1]; rfl) ?_
    refine UP.stp 2 (i1 := 6) (L1 := [some (.ref 0), some (.int 1), some (.int i), some (.int t), some (.int j), some (.int n), none, none]) (st1 := [.int 4, .int t]) (s1 := s) rfl ?_
    refine UP.cI (M1 := m_X6_isBelow) (as := [.int t, .int 4]) (rest := []) (T := F_isBelow s t 4) rfl rfl (ux_isBelow s t 4) ?_
    refine UP.ifF rfl (by rw [bl_n, hb]) ?_
    refine UP.stp 1 (i1 := 9) (L1 := [some (.ref 0), some (.int 1), some (.int i), some (.int t), some (.int j), some (.int n), none, none]) (st1 := [.int (-2)]) (s1 := s) rfl ?_
    exact UP.ret (r := some (.int (-2))) rfl ⟨rfl, rfl⟩
  by_cases e2 : s_ = 2
  · rw [if_neg e0, if_neg e1, if_pos e2, e2]
    by_cases d0 : t = 0
    · rw [if_pos d0, d0]
      exact ux_ccopy_20 s i j n
    by_cases d1 : t = 1
    · rw [if_neg d0, if_pos d1, d1]
      exact ux_ccopy_21 s i j n
    by_cases d2 : t = 2
    · rw [if_neg d0, if_neg d1, if_pos d2, d2]
      exact ux_ccopy_22 s i j n
    by_cases d3 : t = 3
    · rw [if_neg d0, if_neg d1, if_neg d2, if_pos d3, d3]
      exact ux_ccopy_23 s i j n
    rw [if_neg d0, if_neg d1, if_neg d2, if_neg d3]
    have hb : bl t 4 = false := by
      cases q : bl t 4 with
      | false => rfl
      | true =>
        rcases bl_4.mp q with w | w | w | w
        · exact absurd w d0
        · exact absurd w d1
        · exact absurd w d2
        · exact absurd w d3
    have b1 : bl 2 4 = true := rfl
    refine UP.stp 2 (i1 := 2) (L1 := [some (.ref 0), some (.int 2), some (.int i), some (.int t), some (.int j), some (.int n), none, none]) (st1 := [.int 4, .int 2]) (s1 := s) rfl ?_
    refine UP.cI (M1 := m_X6_isBelow) (as := [.int 2, .int 4]) (rest := []) (T := F_isBelow s 2 4) rfl rfl (ux_isBelow s 2 4) ?_
    refine UP.ifF rfl (by rw [bl_e, b1]; rfl) ?_
    refine UP.stp 2 (i1 := 6) (L1 := [some (.ref 0), some (.int 2), some (.int i), some (.int t), some (.int j), some (.int n), none, none]) (st1 := [.int 4, .int t]) (s1 := s) rfl ?_
    refine UP.cI (M1 := m_X6_isBelow) (as := [.int t, .int 4]) (rest := []) (T := F_isBelow s t 4) rfl rfl (ux_isBelow s t 4) ?_
    refine UP.ifF rfl (by rw [bl_n, hb]) ?_
    refine UP.stp 1 (i1 := 9) (L1 := [some (.ref 0), some (.int 2), some (.int i), some (.int t), some (.int j), some (.int n), none, none]) (st1 := [.int (-2)]) (s1 := s) rfl ?_
    exact UP.ret (r := some (.int (-2))) rfl ⟨rfl, rfl⟩
  by_cases e3 : s_ = 3
  · rw [if_neg e0, if_neg e1, if_neg e2, if_pos e3, e3]
    by_cases d0 : t = 0
    · rw [if_pos d0, d0]
      exact ux_ccopy_30 s i j n
    by_cases d1 : t = 1
    · rw [if_neg d0, if_pos d1, d1]
      exact ux_ccopy_31 s i j n
    by_cases d2 : t = 2
    · rw [if_neg d0, if_neg d1, if_pos d2, d2]
      exact ux_ccopy_32 s i j n
    by_cases d3 : t = 3
    · rw [if_neg d0, if_neg d1, if_neg d2, if_pos d3, d3]
      exact ux_ccopy_33 s i j n
    rw [if_neg d0, if_neg d1, if_neg d2, if_neg d3]
    have hb : bl t 4 = false := by
      cases q : bl t 4 with
      | false => rfl
      | true =>
        rcases bl_4.mp q with w | w | w | w
        · exact absurd w d0
        · exact absurd w d1
        · exact absurd w d2
        · exact absurd w d3
    have b1 : bl 3 4 = true := rfl
    refine UP.stp 2 (i1 := 2) (L1 := [some (.ref 0), some (.int 3), some (.int i), some (.int t), some (.int j), some (.int n), none, none]) (st1 := [.int 4, .int 3]) (s1 := s) rfl ?_
    refine UP.cI (M1 := m_X6_isBelow) (as := [.int 3, .int 4]) (rest := []) (T := F_isBelow s 3 4) rfl rfl (ux_isBelow s 3 4) ?_
    refine UP.ifF rfl (by rw [bl_e, b1]; rfl) ?_
    refine UP.stp 2 (i1 := 6) (L1 := [some (.ref 0), some (.int 3), some (.int i), some (.int t), some (.int j), some (.int n), none, none]) (st1 := [.int 4, .int t]) (s1 := s) rfl ?_
    refine UP.cI (M1 := m_X6_isBelow) (as := [.int t, .int 4]) (rest := []) (T := F_isBelow s t 4) rfl rfl (ux_isBelow s t 4) ?_
    refine UP.ifF rfl (by rw [bl_n, hb]) ?_
    refine UP.stp 1 (i1 := 9) (L1 := [some (.ref 0), some (.int 3), some (.int i), some (.int t), some (.int j), some (.int n), none, none]) (st1 := [.int (-2)]) (s1 := s) rfl ?_
    exact UP.ret (r := some (.int (-2))) rfl ⟨rfl, rfl⟩
  rw [if_neg e0, if_neg e1, if_neg e2, if_neg e3]
  have hb : bl s_ 4 = false := by
    cases q : bl s_ 4 with
    | false => rfl
    | true =>
      rcases bl_4.mp q with w | w | w | w
      · exact absurd w e0
      · exact absurd w e1
      · exact absurd w e2
      · exact absurd w e3
  refine UP.stp 2 (i1 := 2) (L1 := [some (.ref 0), some (.int s_), some (.int i), some (.int t), some (.int j), some (.int n), none, none]) (st1 := [.int 4, .int s_]) (s1 := s) rfl ?_
  refine UP.cI (M1 := m_X6_isBelow) (as := [.int s_, .int 4]) (rest := []) (T := F_isBelow s s_ 4) rfl rfl (ux_isBelow s s_ 4) ?_
  refine UP.ifT rfl (by rw [bl_e, hb]; rfl) ?_
  refine UP.stp 1 (i1 := 9) (L1 := [some (.ref 0), some (.int s_), some (.int i), some (.int t), some (.int j), some (.int n), none, none]) (st1 := [.int (-2)]) (s1 := s) rfl ?_
  exact UP.ret (r := some (.int (-2))) rfl ⟨rfl, rfl⟩
theorem cs_ccopy (s : SG) (s_ i t j n : Int32) : F_ccopy s s_ i t j n = bif bl s_ 4 then (bif bl t 4 then G_ccopy s_.toNatClampNeg t.toNatClampNeg s i j n else ((-2), s)) else ((-2), s) := by
  unfold F_ccopy
  by_cases e0 : s_ = 0
  · rw [if_pos e0, e0]
    by_cases d0 : t = 0
    · rw [if_pos d0, d0, gl_ccopy_00, show bl 0 4 = true from rfl, show (0 : Int32).toNatClampNeg = 0 from rfl, cT, cT]
    by_cases d1 : t = 1
    · rw [if_neg d0, if_pos d1, d1, gl_ccopy_01, show bl 0 4 = true from rfl, show (0 : Int32).toNatClampNeg = 0 from rfl, show bl 1 4 = true from rfl, show (1 : Int32).toNatClampNeg = 1 from rfl, cT, cT]
    by_cases d2 : t = 2
    · rw [if_neg d0, if_neg d1, if_pos d2, d2, gl_ccopy_02, show bl 0 4 = true from rfl, show (0 : Int32).toNatClampNeg = 0 from rfl, show bl 2 4 = true from rfl, show (2 : Int32).toNatClampNeg = 2 from rfl, cT, cT]
    by_cases d3 : t = 3
    · rw [if_neg d0, if_neg d1, if_neg d2, if_pos d3, d3, gl_ccopy_03, show bl 0 4 = true from rfl, show (0 : Int32).toNatClampNeg = 0 from rfl, show bl 3 4 = true from rfl, show (3 : Int32).toNatClampNeg = 3 from rfl, cT, cT]
    rw [if_neg d0, if_neg d1, if_neg d2, if_neg d3]
    have hb : bl t 4 = false := by
      cases q : bl t 4 with
      | false => rfl
      | true =>
        rcases bl_4.mp q with w | w | w | w
        · exact absurd w d0
        · exact absurd w d1
        · exact absurd w d2
        · exact absurd w d3
    rw [hb]
    rfl
  by_cases e1 : s_ = 1
  · rw [if_neg e0, if_pos e1, e1]
    by_cases d0 : t = 0
    · rw [if_pos d0, d0, gl_ccopy_10, show bl 1 4 = true from rfl, show (1 : Int32).toNatClampNeg = 1 from rfl, show bl 0 4 = true from rfl, show (0 : Int32).toNatClampNeg = 0 from rfl, cT, cT]
    by_cases d1 : t = 1
    · rw [if_neg d0, if_pos d1, d1, gl_ccopy_11, show bl 1 4 = true from rfl, show (1 : Int32).toNatClampNeg = 1 from rfl, cT, cT]
    by_cases d2 : t = 2
    · rw [if_neg d0, if_neg d1, if_pos d2, d2, gl_ccopy_12, show bl 1 4 = true from rfl, show (1 : Int32).toNatClampNeg = 1 from rfl, show bl 2 4 = true from rfl, show (2 : Int32).toNatClampNeg = 2 from rfl, cT, cT]
    by_cases d3 : t = 3
    · rw [if_neg d0, if_neg d1, if_neg d2, if_pos d3, d3, gl_ccopy_13, show bl 1 4 = true from rfl, show (1 : Int32).toNatClampNeg = 1 from rfl, show bl 3 4 = true from rfl, show (3 : Int32).toNatClampNeg = 3 from rfl, cT, cT]
    rw [if_neg d0, if_neg d1, if_neg d2, if_neg d3]
    have hb : bl t 4 = false := by
      cases q : bl t 4 with
      | false => rfl
      | true =>
        rcases bl_4.mp q with w | w | w | w
        · exact absurd w d0
        · exact absurd w d1
        · exact absurd w d2
        · exact absurd w d3
    rw [hb]
    rfl
  by_cases e2 : s_ = 2
  · rw [if_neg e0, if_neg e1, if_pos e2, e2]
    by_cases d0 : t = 0
    · rw [if_pos d0, d0, gl_ccopy_20, show bl 2 4 = true from rfl, show (2 : Int32).toNatClampNeg = 2 from rfl, show bl 0 4 = true from rfl, show (0 : Int32).toNatClampNeg = 0 from rfl, cT, cT]
    by_cases d1 : t = 1
    · rw [if_neg d0, if_pos d1, d1, gl_ccopy_21, show bl 2 4 = true from rfl, show (2 : Int32).toNatClampNeg = 2 from rfl, show bl 1 4 = true from rfl, show (1 : Int32).toNatClampNeg = 1 from rfl, cT, cT]
    by_cases d2 : t = 2
    · rw [if_neg d0, if_neg d1, if_pos d2, d2, gl_ccopy_22, show bl 2 4 = true from rfl, show (2 : Int32).toNatClampNeg = 2 from rfl, cT, cT]
    by_cases d3 : t = 3
    · rw [if_neg d0, if_neg d1, if_neg d2, if_pos d3, d3, gl_ccopy_23, show bl 2 4 = true from rfl, show (2 : Int32).toNatClampNeg = 2 from rfl, show bl 3 4 = true from rfl, show (3 : Int32).toNatClampNeg = 3 from rfl, cT, cT]
    rw [if_neg d0, if_neg d1, if_neg d2, if_neg d3]
    have hb : bl t 4 = false := by
      cases q : bl t 4 with
      | false => rfl
      | true =>
        rcases bl_4.mp q with w | w | w | w
        · exact absurd w d0
        · exact absurd w d1
        · exact absurd w d2
        · exact absurd w d3
    rw [hb]
    rfl
  by_cases e3 : s_ = 3
  · rw [if_neg e0, if_neg e1, if_neg e2, if_pos e3, e3]
    by_cases d0 : t = 0
    · rw [if_pos d0, d0, gl_ccopy_30, show bl 3 4 = true from rfl, show (3 : Int32).toNatClampNeg = 3 from rfl, show bl 0 4 = true from rfl, show (0 : Int32).toNatClampNeg = 0 from rfl, cT, cT]
    by_cases d1 : t = 1
    · rw [if_neg d0, if_pos d1, d1, gl_ccopy_31, show bl 3 4 = true from rfl, show (3 : Int32).toNatClampNeg = 3 from rfl, show bl 1 4 = true from rfl, show (1 : Int32).toNatClampNeg = 1 from rfl, cT, cT]
    by_cases d2 : t = 2
    · rw [if_neg d0, if_neg d1, if_pos d2, d2, gl_ccopy_32, show bl 3 4 = true from rfl, show (3 : Int32).toNatClampNeg = 3 from rfl, show bl 2 4 = true from rfl, show (2 : Int32).toNatClampNeg = 2 from rfl, cT, cT]
    by_cases d3 : t = 3
    · rw [if_neg d0, if_neg d1, if_neg d2, if_pos d3, d3, gl_ccopy_33, show bl 3 4 = true from rfl, show (3 : Int32).toNatClampNeg = 3 from rfl, cT, cT]
    rw [if_neg d0, if_neg d1, if_neg d2, if_neg d3]
    have hb : bl t 4 = false := by
      cases q : bl t 4 with
      | false => rfl
      | true =>
        rcases bl_4.mp q with w | w | w | w
        · exact absurd w d0
        · exact absurd w d1
        · exact absurd w d2
        · exact absurd w d3
    rw [hb]
    rfl
  rw [if_neg e0, if_neg e1, if_neg e2, if_neg e3]
  have hb : bl s_ 4 = false := by
    cases q : bl s_ 4 with
    | false => rfl
    | true =>
      rcases bl_4.mp q with w | w | w | w
      · exact absurd w e0
      · exact absurd w e1
      · exact absurd w e2
      · exact absurd w e3
  rw [hb]
  rfl
end
section
/-! sheets: all that is kept stays alike; answers alike -/
def WS : LW := [(115, 122, none), (148, 152, none), (0, 0, some 4), (123, 123, some 46)]
theorem KF.sh {s f : SG} (h : KF s) (fr : Fr WS s f) (k : KH f) : KF f := ⟨⟨h.1.1.ag (fr.ag DT rfl), h.1.2.1.ag (fr.ag DC rfl), h.1.2.2.1.ag (fr.ag DE rfl), h.1.2.2.2.1.ag (fr.ag DS rfl), k⟩, h.2.ag (fr.ag DX rfl)⟩
def DHs : LW := [(115, 122, none), (148, 151, none)]
theorem KHs_ag {s f : SG} (h : ∀ q, q < 4 → KHq s q) (a : Ag DHs s f) : ∀ q, q < 4 → KHq f q := fun q hq => (h q hq).ag hq (fun j => a _ j (inW_r 115 122 (by omega) (by omega) rfl)) (fun j => a _ j (inW_r 115 122 (by omega) (by omega) rfl)) (a 148 q rfl) (a 149 q rfl) (a 150 q rfl) (fun i _ => a 151 _ rfl)
/-- one sheet changed -/
theorem KHs_upd {s f : SG} {q : Nat} (h : ∀ q, q < 4 → KHq s q) (u1 : ∀ b j, b ≠ 115 + 2 * q → b ≠ 116 + 2 * q → 115 ≤ b → b ≤ 122 → f b j = s b j) (u2 : ∀ b j, 148 ≤ b → b ≤ 150 → j ≠ q → f b j = s b j) (u3 : ∀ j, ¬ (60 * q ≤ j ∧ j < 60 * q + 60) → f 151 j = s 151 j) (own : KHq f q) : ∀ p, p < 4 → KHq f p := fun p hp => by
  by_cases e : p = q
  · rw [e]; exact own
  · exact (h p hp).ag hp (fun j => u1 _ j (by omega) (by omega) (by omega) (by omega)) (fun j => u1 _ j (by omega) (by omega) (by omega) (by omega)) (u2 148 p (by omega) (by omega) e) (u2 149 p (by omega) (by omega) e) (u2 150 p (by omega) (by omega) e) (fun i hi => u3 _ (by omega))
theorem q_find {s : SG} (h : KF s) (v : Int32) : QK (F_find s v) (fun y => F_meets y v) := by
  unfold QK
  have e : (F_meets (F_find s v).2 v).2 = uset (uset s 0 4 v) 123 46 v := rfl
  rw [e]
  have fr : Fr [(0, 0, some 4), (123, 123, some 46)] s (uset (uset s 0 4 v) 123 46 v) := Fr.uset rfl (Fr.uset rfl (Fr.rf _ _))
  exact ⟨h.sh (fr.wk rfl) ⟨KHs_ag h.1.2.2.2.2.1 (fr.ag DHs rfl), rfl⟩, rfl⟩
theorem idx60 {q i : Nat} (hq : q < 4) (hi : i < 200) : ((60 * Int32.ofNat q) + Int32.ofNat i).toNatClampNeg = 60 * q + i := by
  rw [show (60 * Int32.ofNat q) + Int32.ofNat i = Int32.ofNat (60 * q + i) from ofn_add (ofn_mul rfl rfl) rfl]
  exact ofn_c (by omega)
theorem shM {q : Nat} (hq : q < 4) (y : SG) : ∀ n, n ≤ 60 → (∀ i, i < n → itr (B_sheet_36 (Int32.ofNat q)) 0 n y 151 (60 * q + i) = 0) ∧ ∀ b j, ¬ (b = 151 ∧ 60 * q ≤ j ∧ j < 60 * q + n) → itr (B_sheet_36 (Int32.ofNat q)) 0 n y b j = y b j := by
  intro n
  induction n with
  | zero => exact fun _ => ⟨fun i hi => absurd hi (by omega), fun b j _ => rfl⟩
  | succ n ih =>
    intro hn
    obtain ⟨h1, h2⟩ := ih (by omega)
    rw [itr_0]
    generalize itr (B_sheet_36 (Int32.ofNat q)) 0 n y = a at *
    have e : B_sheet_36 (Int32.ofNat q) n a = uset a 151 (60 * q + n) 0 := by
      unfold B_sheet_36
      rw [idx60 hq (by omega)]
    rw [e]
    refine ⟨fun i hi => ?_, fun b j hb => ?_⟩
    · by_cases w : i = n
      · rw [w]; exact uset_eq _ _ _ _
      · rw [uset_nj (by omega)]; exact h1 i (by omega)
    · rw [uset_ne (by omega)]; exact h2 b j (by omega)
theorem same_q {s : SG} {m : SG → Int32 × SG} (h : KF s) {c : Int32 × SG} {v : Int32} (a : c = (v, s)) (b : m s = (v, s)) : QK c m := by
  unfold QK
  rw [a]
  show KF (m s).2 ∧ v = (m s).1
  rw [b]
  exact ⟨h, rfl⟩
theorem find_q {s : SG} {m : SG → Int32 × SG} (h : KF s) {c : Int32 × SG} {v : Int32} (a : c = F_find s v) (b : m (F_find s v).2 = F_meets (F_find s v).2 v) : QK c m := by
  have k := q_find h v
  unfold QK at *
  rw [a, b]
  exact k
theorem q_sheet {s : SG} (h : KF s) (s_ form n : Int32) : QK (F_csheet s s_ form n) (fun y => F_sheet y s_ form n) := by
  have eC := cs_csheet s s_ form n
  have eM : ∀ y, F_sheet y s_ form n = bif bl s_ 4 then (bif bl form 3 then (bif m_cmp .le n 60 then (bif m_cmp .ge n 0 then (n, itr (B_sheet_36 s_) 0 60 (uset (uset (uset y 148 s_.toNatClampNeg 1) 149 s_.toNatClampNeg form) 150 s_.toNatClampNeg n)) else F_meets y 5) else ((-2), y)) else ((-2), y)) else ((-2), y) := fun y => by
    dsimp only [F_sheet]
    rw [isS_e, in_e y form 2 3 rfl]
    cases bl s_ 4
    · rfl
    · cases bl form 3 <;> rfl
  cases q1 : bl s_ 4 with
  | false =>
    rw [q1] at eC
    exact same_q h eC (by show F_sheet s s_ form n = _; rw [eM, q1]; rfl)
  | true =>
    rw [q1] at eC
    have eC : _ = G_csheet s_.toNatClampNeg s form n := eC
    obtain ⟨es, hq⟩ := bl_ofn q1
    have hq : s_.toNatClampNeg < 4 := hq
    generalize s_.toNatClampNeg = q at *
    unfold G_csheet at eC
    cases q2 : bl form 3 with
    | false =>
      rw [q2] at eC
      exact same_q h eC (by show F_sheet s s_ form n = _; rw [eM, q1, q2]; rfl)
    | true =>
      cases q3 : m_cmp .le n 60 with
      | false =>
        rw [q2, q3] at eC
        exact same_q h eC (by show F_sheet s s_ form n = _; rw [eM, q1, q2, q3]; rfl)
      | true =>
        cases q4 : m_cmp .ge n 0 with
        | false =>
          rw [q2, q3, q4] at eC
          exact find_q h eC (by show F_sheet _ s_ form n = _; rw [eM, q1, q2, q3, q4]; rfl)
        | true =>
          rw [q2, q3, q4] at eC
          have eC : F_csheet s s_ form n = (n, uset (uset (uset (fil s (116 + 2 * q) 60 0) (115 + 2 * q) 1 0) (115 + 2 * q) 2 form) (115 + 2 * q) 3 n) := eC
          unfold QK
          rw [eC]
          have fc : Fr [(115, 122, none)] s (uset (uset (uset (fil s (116 + 2 * q) 60 0) (115 + 2 * q) 1 0) (115 + 2 * q) 2 form) (115 + 2 * q) 3 n) := fun b j hb => by
            have hb : ¬ (115 ≤ b ∧ b ≤ 122) := fun w => by rw [inW_r 115 122 w.1 w.2 rfl] at hb; cases hb
            rw [uset_na (by omega), uset_na (by omega), uset_na (by omega)]
            exact fil_na (by omega)
          have c1 : uset (uset (uset (fil s (116 + 2 * q) 60 0) (115 + 2 * q) 1 0) (115 + 2 * q) 2 form) (115 + 2 * q) 3 n (115 + 2 * q) 1 = 0 := (uset_nj (by decide)).trans ((uset_nj (by decide)).trans (uset_eq _ _ _ _))
          have c2 : uset (uset (uset (fil s (116 + 2 * q) 60 0) (115 + 2 * q) 1 0) (115 + 2 * q) 2 form) (115 + 2 * q) 3 n (115 + 2 * q) 2 = form := (uset_nj (by decide)).trans (uset_eq _ _ _ _)
          have c3 : uset (uset (uset (fil s (116 + 2 * q) 60 0) (115 + 2 * q) 1 0) (115 + 2 * q) 2 form) (115 + 2 * q) 3 n (115 + 2 * q) 3 = n := uset_eq _ _ _ _
          have c4 : ∀ i, i < 60 → uset (uset (uset (fil s (116 + 2 * q) 60 0) (115 + 2 * q) 1 0) (115 + 2 * q) 2 form) (115 + 2 * q) 3 n (116 + 2 * q) i = 0 := fun i hi => by
            rw [uset_na (by omega), uset_na (by omega), uset_na (by omega)]
            exact fil_eq hi
          have c5 : ∀ b j, b ≠ 115 + 2 * q → b ≠ 116 + 2 * q → uset (uset (uset (fil s (116 + 2 * q) 60 0) (115 + 2 * q) 1 0) (115 + 2 * q) 2 form) (115 + 2 * q) 3 n b j = s b j := fun b j b1 b2 => by
            rw [uset_na b1, uset_na b1, uset_na b1]
            exact fil_na b2
          generalize uset (uset (uset (fil s (116 + 2 * q) 60 0) (115 + 2 * q) 1 0) (115 + 2 * q) 2 form) (115 + 2 * q) 3 n = c at *
          have eM2 := eM c
          rw [q1, q2, q3, q4, es] at eM2
          have eM2 : F_sheet c (Int32.ofNat q) form n = (n, itr (B_sheet_36 (Int32.ofNat q)) 0 60 (uset (uset (uset c 148 q 1) 149 q form) 150 q n)) := eM2
          rw [es]
          show KF (F_sheet c (Int32.ofNat q) form n).2 ∧ n = (F_sheet c (Int32.ofNat q) form n).1
          rw [eM2]
          dsimp only
          obtain ⟨m1, m2⟩ := shM hq (uset (uset (uset c 148 q 1) 149 q form) 150 q n) 60 (Nat.le_refl _)
          generalize itr (B_sheet_36 (Int32.ofNat q)) 0 60 (uset (uset (uset c 148 q 1) 149 q form) 150 q n) = f at *
          have f1 : f 148 q = 1 := (m2 148 q (by omega)).trans ((uset_na (by decide)).trans ((uset_na (by decide)).trans (uset_eq _ _ _ _)))
          have f2 : f 149 q = form := (m2 149 q (by omega)).trans ((uset_na (by decide)).trans (uset_eq _ _ _ _))
          have f3 : f 150 q = n := (m2 150 q (by omega)).trans (uset_eq _ _ _ _)
          have f4 : ∀ b j, b ≠ 148 → b ≠ 149 → b ≠ 150 → b ≠ 151 → f b j = c b j := fun b j b1 b2 b3 b4 => by
            rw [m2 b j (by omega), uset_na b3, uset_na b2, uset_na b1]
          have n0 := m_ge_iff.mp q4
          have n1 := mle_iff.mp q3
          have e0 : (0 : Int32).toInt = 0 := by decide
          have e60 : (60 : Int32).toInt = 60 := by decide
          refine ⟨h.sh ?_ ⟨KHs_upd h.1.2.2.2.2.1 (q := q) (fun b j b1 b2 b3 b4 => ?_) (fun b j b1 b2 b3 => ?_) (fun j hj => ?_) ⟨?_, ?_, ?_, ?_, ?_, fun i hi => ?_⟩, ?_⟩, rfl⟩
          · refine (fc.wk rfl).tr (s1 := c) (fun b j hb => ?_)
            have hb : ¬ (148 ≤ b ∧ b ≤ 152) := fun w => by rw [inW_r 148 152 w.1 w.2 rfl] at hb; cases hb
            exact f4 b j (by omega) (by omega) (by omega) (by omega)
          · rw [f4 b j (by omega) (by omega) (by omega) (by omega)]; exact c5 b j b1 b2
          · rw [m2 b j (by omega), uset_ne (by omega), uset_ne (by omega), uset_ne (by omega)]; exact c5 b j (by omega) (by omega)
          · rw [m2 151 j (by omega), uset_na (by decide), uset_na (by decide), uset_na (by decide)]; exact c5 _ j (by omega) (by omega)
          · rw [f4 _ 1 (by omega) (by omega) (by omega) (by omega), c1, f1]; rfl
          · rw [f4 _ 2 (by omega) (by omega) (by omega) (by omega), c2, f2]
          · rw [f4 _ 3 (by omega) (by omega) (by omega) (by omega), c3, f3]
          · rw [f3]; omega
          · rw [f3]; show n.toInt.toNat ≤ 60; omega
          · rw [f4 _ i (by omega) (by omega) (by omega) (by omega), c4 i hi, m1 i hi]
          · rw [f4 0 4 (by decide) (by decide) (by decide) (by decide), f4 123 46 (by decide) (by decide) (by decide) (by decide), c5 0 4 (by omega) (by omega), c5 123 46 (by omega) (by omega)]; exact h.1.2.2.2.2.2
theorem q_lose {s : SG} (h : KF s) (s_ : Int32) : QK (F_close s s_) (fun y => F_lose y s_) := by
  have eC := cs_close s s_
  have eM : ∀ y, F_lose y s_ = bif bl s_ 4 then (bif m_cmp .ne (y 148 s_.toNatClampNeg) 0 then (y 150 s_.toNatClampNeg, uset y 148 s_.toNatClampNeg 0) else F_meets y 1) else ((-2), y) := fun y => by
    dsimp only [F_lose]
    rw [isS_n]
  cases q1 : bl s_ 4 with
  | false =>
    rw [q1] at eC
    exact same_q h eC (by show F_lose s s_ = _; rw [eM, q1]; rfl)
  | true =>
    rw [q1] at eC
    have eC : _ = G_close s_.toNatClampNeg s := eC
    obtain ⟨es, hq⟩ := bl_ofn q1
    have hq : s_.toNatClampNeg < 4 := hq
    generalize s_.toNatClampNeg = q at *
    obtain ⟨k1, k2, k3, k4, k5, k6⟩ := h.1.2.2.2.2.1 q hq
    unfold G_close at eC
    rw [eq_ne, k1, Bool.not_not] at eC
    cases q2 : m_cmp .ne (s 148 q) 0 with
    | false =>
      rw [q2] at eC
      have f148 : (F_find s 1).2 148 q = s 148 q := rfl
      exact find_q h eC (by show F_lose _ s_ = _; rw [eM, q1, f148, q2]; rfl)
    | true =>
      rw [q2] at eC k1
      have eC : F_close s s_ = (s (115 + 2 * q) 3, uset s (115 + 2 * q) 1 1) := eC
      unfold QK
      rw [eC]
      have c148 : uset s (115 + 2 * q) 1 1 148 q = s 148 q := uset_na (by omega)
      have c150 : uset s (115 + 2 * q) 1 1 150 q = s 150 q := uset_na (by omega)
      have e : F_lose (uset s (115 + 2 * q) 1 1) s_ = (s 150 q, uset (uset s (115 + 2 * q) 1 1) 148 q 0) := by
        rw [eM, q1, c148, q2, c150]
        rfl
      show KF (F_lose (uset s (115 + 2 * q) 1 1) s_).2 ∧ s (115 + 2 * q) 3 = (F_lose (uset s (115 + 2 * q) 1 1) s_).1
      rw [e]
      have f4 : ∀ b j, ¬ (b = 115 + 2 * q ∧ j = 1) → ¬ (b = 148 ∧ j = q) → uset (uset s (115 + 2 * q) 1 1) 148 q 0 b j = s b j := fun b j b1 b2 => (uset_ne b2).trans (uset_ne b1)
      have f1 : uset (uset s (115 + 2 * q) 1 1) 148 q 0 (115 + 2 * q) 1 = 1 := (uset_na (by omega)).trans (uset_eq _ _ _ _)
      have f2 : uset (uset s (115 + 2 * q) 1 1) 148 q 0 148 q = 0 := uset_eq _ _ _ _
      dsimp only
      generalize uset (uset s (115 + 2 * q) 1 1) 148 q 0 = f at *
      refine ⟨h.sh (fun b j hb => ?_) ⟨KHs_upd h.1.2.2.2.2.1 (q := q) (fun b j b1 b2 b3 b4 => f4 b j (by omega) (by omega)) (fun b j b1 b2 b3 => f4 b j (by omega) (by omega)) (fun j hj => f4 151 j (by omega) (by omega)) ⟨?_, ?_, ?_, ?_, ?_, fun i hi => ?_⟩, ?_⟩, k3⟩
      · have b1 : ¬ (115 ≤ b ∧ b ≤ 122) := fun w => by rw [inW_r 115 122 w.1 w.2 rfl] at hb; cases hb
        have b2 : ¬ (148 ≤ b ∧ b ≤ 152) := fun w => by rw [inW_r 148 152 w.1 w.2 rfl] at hb; cases hb
        exact f4 b j (by omega) (by omega)
      · rw [f1, f2]; rfl
      · rw [f4 _ _ (by omega) (by omega), f4 149 q (by omega) (by omega)]; exact k2
      · rw [f4 _ _ (by omega) (by omega), f4 150 q (by omega) (by omega)]; exact k3
      · rw [f4 150 q (by omega) (by omega)]; exact k4
      · rw [f4 150 q (by omega) (by omega)]; exact k5
      · rw [f4 _ _ (by omega) (by omega), f4 151 _ (by omega) (by omega)]; exact k6 i hi
      · rw [f4 0 4 (by omega) (by omega), f4 123 46 (by omega) (by omega)]; exact h.1.2.2.2.2.2
/-- what is wrong with an item -/
theorem fo_eq {s : SG} {q : Nat} (k : KHq s q) (form i : Int32) (s_ : Int32) (es : s_.toNatClampNeg = q) : F_lacks s s_ form i = G_fo q s form i := by
  obtain ⟨k1, k2, k3, k4, k5, k6⟩ := k
  dsimp only [F_lacks]
  unfold G_fo
  have e1 : (1 : Int32).toInt = 1 := by decide
  have l : (s 150 q).toInt.toNat ≤ 60 := k5
  have d : (s 150 q - 1).toInt + 1 = (s 150 q).toInt := by
    rw [i32_sub (by omega) (by omega)]
    omega
  rw [es, eq_ne (s (115 + 2 * q) 1) 0, k1, Bool.not_not, k2, k3, in_e s i _ _ d, bl_e]
theorem fo_03 (q : Nat) (s : SG) (form i : Int32) : m_cmp .le (G_fo q s form i) 0 = m_cmp .eq (G_fo q s form i) 0 := by
  unfold G_fo
  cases m_cmp .eq (s (115 + 2 * q) 1) 0
  · rfl
  · cases m_cmp .eq (s (115 + 2 * q) 2) form
    · rfl
    · cases m_cmp .eq (F_isBelow s i (s (115 + 2 * q) 3)) 0 <;> rfl
theorem fo_0 {s : SG} {q : Nat} (k : KHq s q) {form i : Int32} (h : m_cmp .eq (G_fo q s form i) 0 = true) : ∃ j, j < 60 ∧ i = Int32.ofNat j ∧ i.toNatClampNeg = j := by
  obtain ⟨k1, k2, k3, k4, k5, k6⟩ := k
  unfold G_fo at h
  cases a : m_cmp .eq (s (115 + 2 * q) 1) 0 with
  | false => rw [a] at h; cases h
  | true =>
    cases b : m_cmp .eq (s (115 + 2 * q) 2) form with
    | false => rw [a, b] at h; cases h
    | true =>
      rw [a, b, bl_e] at h
      cases c : bl i (s (115 + 2 * q) 3) with
      | false => rw [c] at h; cases h
      | true =>
        obtain ⟨e1, e2⟩ := bl_ofn c
        rw [k3] at e2
        have k5 : (s 150 q).toInt.toNat ≤ 60 := k5
        exact ⟨_, by omega, e1, rfl⟩
theorem F_in_c (y s : SG) (v a b : Int32) : F_in y v a b = F_in s v a b := rfl
theorem lacks_c {y s : SG} {s_ : Int32} (h8 : y 148 s_.toNatClampNeg = s 148 s_.toNatClampNeg) (h9 : y 149 s_.toNatClampNeg = s 149 s_.toNatClampNeg) (h0 : y 150 s_.toNatClampNeg = s 150 s_.toNatClampNeg) (form i : Int32) : F_lacks y s_ form i = F_lacks s s_ form i := by
  dsimp only [F_lacks]
  rw [h8, h9, h0, F_in_c y s]
theorem q_put {s : SG} (h : KF s) (s_ form i v : Int32) : QK (F_cput s s_ form i v) (fun y => F_put y s_ form i v) := by
  have eC := cs_cput s s_ form i v
  have eM : ∀ y, F_put y s_ form i v = bif bl s_ 4 then (bif bl form 3 then (bif m_cmp .le (F_lacks y s_ form i) 0 then (1, F_keep y s_ i v) else F_meets y (F_lacks y s_ form i)) else ((-2), y)) else ((-2), y) := fun y => by
    dsimp only [F_put]
    rw [isS_e, in_n y form 2 3 rfl]
    cases bl s_ 4 <;> rfl
  cases q1 : bl s_ 4 with
  | false =>
    rw [q1] at eC
    exact same_q h eC (by show F_put s s_ form i v = _; rw [eM, q1]; rfl)
  | true =>
    rw [q1, cT] at eC
    obtain ⟨es, hq⟩ := bl_ofn q1
    have hq : s_.toNatClampNeg < 4 := hq
    have K := h.1.2.2.2.2.1 _ hq
    unfold G_cput at eC
    cases q2 : bl form 3 with
    | false =>
      rw [q2] at eC
      exact same_q h eC (by show F_put s s_ form i v = _; rw [eM, q1, q2]; rfl)
    | true =>
      rw [q2, cT] at eC
      cases q3 : m_cmp .eq (G_fo s_.toNatClampNeg s form i) 0 with
      | false =>
        rw [q3, cF] at eC
        refine find_q h eC ?_
        show F_put _ s_ form i v = _
        have eL : F_lacks (F_find s (G_fo s_.toNatClampNeg s form i)).2 s_ form i = F_lacks s s_ form i := lacks_c rfl rfl rfl form i
        rw [eM, q1, q2, eL, fo_eq K form i s_ rfl, fo_03, q3, cT, cT, cF]
      | true =>
        rw [q3, cT] at eC
        obtain ⟨j, hj, ei, ej⟩ := fo_0 K q3
        unfold QK
        rw [eC]
        have eL : F_lacks (uset s (116 + 2 * s_.toNatClampNeg) i.toNatClampNeg (cvF (s (115 + 2 * s_.toNatClampNeg) 2) v)) s_ form i = F_lacks s s_ form i := by
          exact lacks_c (uset_na (by omega)) (uset_na (by omega)) (uset_na (by omega)) form i
        have eK : ∀ y : SG, F_keep y s_ i v = uset y 151 (60 * s_.toNatClampNeg + j) (cvF (y 149 s_.toNatClampNeg) v) := fun y => by
          have e : F_keep y s_ i v = uset y 151 (((60 * s_) + i).toNatClampNeg) (cvF (y 149 s_.toNatClampNeg) v) := rfl
          have e2 : ((60 * s_) + i).toNatClampNeg = 60 * s_.toNatClampNeg + j := by
            rw [es, ei, idx60 hq (by omega), ← es]
          rw [e, e2]
        have e : F_put (uset s (116 + 2 * s_.toNatClampNeg) i.toNatClampNeg (cvF (s (115 + 2 * s_.toNatClampNeg) 2) v)) s_ form i v = (1, uset (uset s (116 + 2 * s_.toNatClampNeg) j (cvF (s (115 + 2 * s_.toNatClampNeg) 2) v)) 151 (60 * s_.toNatClampNeg + j) (cvF (s 149 s_.toNatClampNeg) v)) := by
          rw [eM, q1, q2, eL, fo_eq K form i s_ rfl, fo_03, q3, eK, uset_na (by omega), ej, cT, cT, cT]
        dsimp only
        rw [e]
        dsimp only
        generalize s_.toNatClampNeg = q at *
        obtain ⟨k1, k2, k3, k4, k5, k6⟩ := K
        rw [← k2]
        generalize cvF (s (115 + 2 * q) 2) v = x
        have f4 : ∀ b l, ¬ (b = 116 + 2 * q ∧ l = j) → ¬ (b = 151 ∧ l = 60 * q + j) → uset (uset s (116 + 2 * q) j x) 151 (60 * q + j) x b l = s b l := fun b l b1 b2 => (uset_ne b2).trans (uset_ne b1)
        have f1 : uset (uset s (116 + 2 * q) j x) 151 (60 * q + j) x (116 + 2 * q) j = x := (uset_na (by omega)).trans (uset_eq _ _ _ _)
        have f2 : uset (uset s (116 + 2 * q) j x) 151 (60 * q + j) x 151 (60 * q + j) = x := uset_eq _ _ _ _
        generalize uset (uset s (116 + 2 * q) j x) 151 (60 * q + j) x = f at *
        refine ⟨h.sh (fun b j hb => ?_) ⟨KHs_upd h.1.2.2.2.2.1 (q := q) (fun b j b1 b2 b3 b4 => f4 b j (by omega) (by omega)) (fun b j b1 b2 b3 => f4 b j (by omega) (by omega)) (fun j hj => f4 151 j (by omega) (by omega)) ⟨?_, ?_, ?_, ?_, ?_, fun l hl => ?_⟩, ?_⟩, rfl⟩
        · have b1 : ¬ (115 ≤ b ∧ b ≤ 122) := fun w => by rw [inW_r 115 122 w.1 w.2 rfl] at hb; cases hb
          have b2 : ¬ (148 ≤ b ∧ b ≤ 152) := fun w => by rw [inW_r 148 152 w.1 w.2 rfl] at hb; cases hb
          exact f4 b j (by omega) (by omega)
        · rw [f4 _ _ (by omega) (by omega), f4 148 q (by omega) (by omega)]; exact k1
        · rw [f4 _ _ (by omega) (by omega), f4 149 q (by omega) (by omega)]; exact k2
        · rw [f4 _ _ (by omega) (by omega), f4 150 q (by omega) (by omega)]; exact k3
        · rw [f4 150 q (by omega) (by omega)]; exact k4
        · rw [f4 150 q (by omega) (by omega)]; exact k5
        · by_cases w : l = j
          · rw [w, f1, f2]
          · rw [f4 _ _ (by omega) (by omega), f4 151 _ (by omega) (by omega)]; exact k6 l hl
        · rw [f4 0 4 (by omega) (by omega), f4 123 46 (by omega) (by omega)]; exact h.1.2.2.2.2.2
theorem q_get {s : SG} (h : KF s) (s_ form i : Int32) : QK (F_cget s s_ form i) (fun y => F_get y s_ form i) := by
  have eC := cs_cget s s_ form i
  have eM : ∀ y, F_get y s_ form i = bif bl s_ 4 then (bif bl form 3 then (bif m_cmp .le (F_lacks y s_ form i) 0 then (y 151 (((60 * s_) + i).toNatClampNeg), y) else ((-2147483648), uset y 123 46 (F_lacks y s_ form i))) else ((-2147483648), y)) else ((-2147483648), y) := fun y => by
    dsimp only [F_get]
    rw [isS_e, in_n y form 2 3 rfl]
    cases bl s_ 4 <;> rfl
  cases q1 : bl s_ 4 with
  | false =>
    rw [q1] at eC
    exact same_q h eC (by show F_get s s_ form i = _; rw [eM, q1]; rfl)
  | true =>
    rw [q1] at eC
    have eC : _ = G_cget s_.toNatClampNeg s form i := eC
    obtain ⟨es, hq⟩ := bl_ofn q1
    have hq : s_.toNatClampNeg < 4 := hq
    have K := h.1.2.2.2.2.1 _ hq
    unfold G_cget at eC
    cases q2 : bl form 3 with
    | false =>
      rw [q2] at eC
      exact same_q h eC (by show F_get s s_ form i = _; rw [eM, q1, q2]; rfl)
    | true =>
      rw [q2] at eC
      cases q3 : m_cmp .eq (G_fo s_.toNatClampNeg s form i) 0 with
      | false =>
        rw [q3] at eC
        have eC : F_cget s s_ form i = ((-2147483648), uset s 0 4 (G_fo s_.toNatClampNeg s form i)) := eC
        have eL : F_lacks (uset s 0 4 (G_fo s_.toNatClampNeg s form i)) s_ form i = F_lacks s s_ form i := rfl
        have e : F_get (uset s 0 4 (G_fo s_.toNatClampNeg s form i)) s_ form i = ((-2147483648), uset (uset s 0 4 (G_fo s_.toNatClampNeg s form i)) 123 46 (G_fo s_.toNatClampNeg s form i)) := by
          rw [eM, q1, q2, eL, fo_eq K form i s_ rfl, fo_03, q3]
          rfl
        unfold QK
        rw [eC]
        show KF (F_get _ s_ form i).2 ∧ -2147483648 = (F_get _ s_ form i).1
        rw [e]
        exact ⟨(q_find h (G_fo s_.toNatClampNeg s form i)).1, rfl⟩
      | true =>
        rw [q3] at eC
        obtain ⟨j, hj, ei, ej⟩ := fo_0 K q3
        have eC : F_cget s s_ form i = (s (116 + 2 * s_.toNatClampNeg) i.toNatClampNeg, s) := eC
        have e2 : ((60 * s_) + i).toNatClampNeg = 60 * s_.toNatClampNeg + j := by
          rw [es, ei, idx60 hq (by omega), ← es]
        have e : F_get s s_ form i = (s 151 (60 * s_.toNatClampNeg + j), s) := by
          rw [eM, q1, q2, fo_eq K form i s_ rfl, fo_03, q3, e2]
          rfl
        rw [ej, K.2.2.2.2.2 j hj] at eC
        exact same_q h eC e
end
section
/-! write and copy -/
theorem rt0 {s : SG} (t : KT s) (c : KC s) (e : KE s) : MOu (inC_a s 255) (F_runsTold s) ∧ F_runsTold s 123 2 = s 10 0 := by
  have a := asT t c
  have h8 := row8 t c.1
  have q := eqT_told e h8 a
  have eF : F_runsTold s = F_runs (F_asTold s) := rfl
  rw [eF]
  generalize F_asTold s = z at *
  have r := runMO (z := z) (by rw [a.1]; exact h8) (fun k hk => ⟨k, hk, a.2.2.2.1 k hk⟩) q (ovC t c 255)
  exact ⟨r.1, (r.2 123 2 rfl).trans a.1⟩
def wrS (A B : Nat) (what : Int32) (i : Nat) (a : SG) : SG := uset a B (Int32.ofNat i).toNatClampNeg (cvF (a A 2) (bif m_cmp .ne what 0 then a 17 i else a 16 i))
theorem wrC {A B : Nat} (hAB : A ≠ B) (h1 : 16 ≠ B) (h2 : 17 ≠ B) (what : Int32) (y : SG) : ∀ n, n ≤ 24 → (∀ i, i < n → itr (wrS A B what) 0 n y B i = cvF (y A 2) (bif m_cmp .ne what 0 then y 17 i else y 16 i)) ∧ ∀ b j, ¬ (b = B ∧ j < n) → itr (wrS A B what) 0 n y b j = y b j := by
  intro n
  induction n with
  | zero => exact fun _ => ⟨fun i hi => absurd hi (by omega), fun b j _ => rfl⟩
  | succ n ih =>
    intro hn
    obtain ⟨k1, k2⟩ := ih (by omega)
    rw [itr_0]
    generalize itr (wrS A B what) 0 n y = a at *
    have e : wrS A B what n a = uset a B n (cvF (y A 2) (bif m_cmp .ne what 0 then y 17 n else y 16 n)) := by
      unfold wrS
      rw [ofn_c (by omega), k2 A 2 (by omega), k2 17 n (by omega), k2 16 n (by omega)]
    rw [e]
    refine ⟨fun i hi => ?_, fun b j hb => ?_⟩
    · by_cases w : i = n
      · rw [w]; exact uset_eq _ _ _ _
      · rw [uset_nj w]; exact k1 i (by omega)
    · rw [uset_ne (by omega)]; exact k2 b j (by omega)
def wrG (q : Nat) (what : Int32) (i : Nat) (a : SG) : SG := F_keep a (Int32.ofNat q) (Int32.ofNat i) (bif m_cmp .ne what 0 then a 140 i else a 139 i)
theorem wrM {q : Nat} (hq : q < 4) (what : Int32) (y : SG) : ∀ n, n ≤ 24 → (∀ i, i < n → itr (wrG q what) 0 n y 151 (60 * q + i) = cvF (y 149 q) (bif m_cmp .ne what 0 then y 140 i else y 139 i)) ∧ ∀ b j, ¬ (b = 151 ∧ 60 * q ≤ j ∧ j < 60 * q + n) → itr (wrG q what) 0 n y b j = y b j := by
  intro n
  induction n with
  | zero => exact fun _ => ⟨fun i hi => absurd hi (by omega), fun b j _ => rfl⟩
  | succ n ih =>
    intro hn
    obtain ⟨k1, k2⟩ := ih (by omega)
    rw [itr_0]
    generalize itr (wrG q what) 0 n y = a at *
    have e : wrG q what n a = uset a 151 (60 * q + n) (cvF (y 149 q) (bif m_cmp .ne what 0 then y 140 n else y 139 n)) := by
      have e0 : wrG q what n a = uset a 151 (((60 * Int32.ofNat q) + Int32.ofNat n).toNatClampNeg) (cvF (a 149 (Int32.ofNat q).toNatClampNeg) (bif m_cmp .ne what 0 then a 140 n else a 139 n)) := rfl
      rw [e0, idx60 hq (by omega), ofn_c (by omega), k2 149 q (by omega), k2 140 n (by omega), k2 139 n (by omega)]
    rw [e]
    refine ⟨fun i hi => ?_, fun b j hb => ?_⟩
    · by_cases w : i = n
      · rw [w]; exact uset_eq _ _ _ _
      · rw [uset_nj (by omega)]; exact k1 i (by omega)
    · rw [uset_ne (by omega)]; exact k2 b j (by omega)
theorem itx_app {α β : Type} {f : Nat → α → α ⊕ β} {g : Nat → α → α} : ∀ (m lo k : Nat) (a : α), (∀ i x, i < lo + m → f i x = .inl (g i x)) → itx f lo (m + k) a = itx f (lo + m) k (itr g lo m a)
  | 0, lo, k, a, _ => by rw [Nat.zero_add]; rfl
  | m + 1, lo, k, a, h => by
    rw [show m + 1 + k = (m + k) + 1 by omega, itx_l f (h lo a (by omega)), itx_app m (lo + 1) k (g lo a) (fun i x hi => h i x (by omega)), show lo + 1 + m = lo + (m + 1) by omega]
    rfl
theorem wrX (q : Nat) (what : Int32) (S : Nat) (hS : S ≤ 60) (z : SG) : Sum.elim (fun z10 : SG => (Int32.ofNat S, z10)) (fun w10 : Nat × SG => (Int32.ofNat w10.1, w10.2)) (itx (B_write_21 what (Int32.ofNat q)) 0 S z) = (Int32.ofNat (min S 24), itr (wrG q what) 0 (min S 24) z) := by
  have hin : ∀ i x, i < 0 + (min S 24) → B_write_21 what (Int32.ofNat q) i x = .inl (wrG q what i x) := fun i x hi => by
    have e : B_write_21 what (Int32.ofNat q) i x = bif m_cmp .ge (Int32.ofNat i) 24 then .inr x else .inl (wrG q what i x) := rfl
    rw [e, ge_F (show i < (24 : Int32).toNatClampNeg from by have : (24 : Int32).toNatClampNeg = 24 := rfl; omega)]
    rfl
  have A := itx_app (min S 24) 0 (S - min S 24) z hin
  rw [show min S 24 + (S - min S 24) = S by omega] at A
  rw [A]
  by_cases w : S ≤ 24
  · rw [show S - min S 24 = 0 by omega, show min S 24 = S by omega]
    rfl
  · have e2 : min S 24 = 24 := by omega
    rw [e2]
    obtain ⟨k, hk⟩ : ∃ k, S - 24 = k + 1 := ⟨S - 25, by omega⟩
    rw [hk, itx_r (B_write_21 what (Int32.ofNat q)) (b := itr (wrG q what) 0 24 z) rfl]
    rfl
def WSr : LW := [(115, 122, none), (148, 152, none), (0, 0, some 4), (123, 123, some 46), (126, 129, none), (133, 144, none), (147, 147, none), (123, 123, some 2), (123, 123, some 5), (123, 123, some 7), (123, 123, some 17), (123, 123, some 19), (123, 123, some 20), (123, 123, some 21), (123, 123, some 22), (123, 123, some 23), (123, 123, some 24), (123, 123, some 25), (123, 123, some 26), (123, 123, some 27)]
theorem KF.shr {s f : SG} (h : KF s) (fr : Fr WSr s f) (k : KH f) : KF f := ⟨⟨h.1.1.ag (fr.ag DT rfl), h.1.2.1.ag (fr.ag DC rfl), h.1.2.2.1.ag (fr.ag DE rfl), h.1.2.2.2.1.ag (fr.ag DS rfl), k⟩, h.2.ag (fr.ag DX rfl)⟩
theorem min24 {S : Nat} (h : S ≤ 60) : (if (24 : Int32) < Int32.ofNat S then (24 : Int32) else Int32.ofNat S) = Int32.ofNat (min S 24) := by
  have e1 : (24 : Int32).toInt = 24 := by decide
  have e2 : (Int32.ofNat S).toInt = (S : Int) := ofn_int (by omega)
  by_cases w : S ≤ 24
  · rw [if_neg (fun q => by have := Int32.lt_iff_toInt_lt.mp q; omega), show min S 24 = S by omega]
  · rw [if_pos (Int32.lt_iff_toInt_lt.mpr (by omega)), show min S 24 = 24 by omega]
    rfl
theorem q_write {s : SG} (h : KF s) (what s_ : Int32) : QK (F_cwrite s what s_) (fun y => F_write y what s_) := by
  have eC := cs_cwrite s what s_
  have eM : ∀ y, F_write y what s_ = bif bl what 2 then (bif bl s_ 4 then (bif m_cmp .ne (y 148 s_.toNatClampNeg) 0 then (Sum.elim (fun z10 : SG => (Int32.ofNat ((F_runsTold y 150 s_.toNatClampNeg).toNatClampNeg), z10)) (fun w10 : Nat × SG => (Int32.ofNat w10.1, w10.2)) (itx (B_write_21 what s_) 0 ((F_runsTold y 150 s_.toNatClampNeg).toNatClampNeg) (F_runsTold y))) else F_meets y 1) else ((-2), y)) else ((-2), y) := fun y => by
    dsimp only [F_write]
    rw [is2_e, isS_n]
    cases bl what 2 <;> rfl
  cases q1 : bl s_ 4 with
  | false =>
    rw [q1] at eC
    refine same_q h eC ?_
    show F_write s what s_ = _
    rw [eM, q1]
    cases bl what 2 <;> rfl
  | true =>
    rw [q1] at eC
    have eC : _ = G_cwrite s_.toNatClampNeg s what := eC
    obtain ⟨es, hq⟩ := bl_ofn q1
    have hq : s_.toNatClampNeg < 4 := hq
    unfold G_cwrite at eC
    cases q2 : bl what 2 with
    | false =>
      rw [q2] at eC
      exact same_q h eC (by show F_write s what s_ = _; rw [eM, q1, q2]; rfl)
    | true =>
      rw [q2] at eC
      obtain ⟨k1, k2, k3, k4, k5, k6⟩ := h.1.2.2.2.2.1 _ hq
      rw [eq_ne, k1, Bool.not_not] at eC
      cases q3 : m_cmp .ne (s 148 s_.toNatClampNeg) 0 with
      | false =>
        rw [q3] at eC
        have f148 : (F_find s 1).2 148 s_.toNatClampNeg = s 148 s_.toNatClampNeg := rfl
        exact find_q h eC (by show F_write _ what s_ = _; rw [eM, q1, q2, f148, q3]; rfl)
      | true =>
        rw [q3] at eC
        obtain ⟨t1, t2, t3⟩ := tt h
        have eC : F_cwrite s what s_ = ((if 24 < F_toldTrip s (115 + 2 * s_.toNatClampNeg) 3 then 24 else F_toldTrip s (115 + 2 * s_.toNatClampNeg) 3), itr (wrS (115 + 2 * s_.toNatClampNeg) (116 + 2 * s_.toNatClampNeg) what) 0 (if 24 < F_toldTrip s (115 + 2 * s_.toNatClampNeg) 3 then 24 else F_toldTrip s (115 + 2 * s_.toNatClampNeg) 3).toNatClampNeg (F_toldTrip s)) := eC
        have y148 : F_toldTrip s 148 s_.toNatClampNeg = s 148 s_.toNatClampNeg := t3 148 _ rfl
        generalize F_toldTrip s = y at *
        rw [← y148] at q3
        generalize s_.toNatClampNeg = q at *
        obtain ⟨k1, k2, k3, k4, k5, k6⟩ := t1.1.2.2.2.2.1 q hq
        obtain ⟨S, hS, eS⟩ := lenO k4 k5
        have eA : y (115 + 2 * q) 3 = Int32.ofNat S := k3.trans eS
        have cS : (Int32.ofNat S).toNatClampNeg = S := ofn_c (by omega)
        rw [eA, min24 hS, ofn_c (by omega)] at eC
        obtain ⟨w1, w2⟩ := wrC (A := 115 + 2 * q) (B := 116 + 2 * q) (by omega) (by omega) (by omega) what y (min S 24) (by omega)
        unfold QK
        rw [eC]
        dsimp only
        generalize itr (wrS (115 + 2 * q) (116 + 2 * q) what) 0 (min S 24) y = c at *
        have fc : Fr [(115, 122, none)] y c := fun b j hb => by
          have hb : ¬ (115 ≤ b ∧ b ≤ 122) := fun w => by rw [inW_r 115 122 w.1 w.2 rfl] at hb; cases hb
          exact w2 b j (by omega)
        have R := (rt0 (t1.1.1.ag (fc.ag DT rfl)).1 (t1.1.2.1.ag (fc.ag DC rfl)) (t1.1.2.2.1.ag (fc.ag DE rfl))).1
        rw [inC_ag (fc.ag DJ rfl)] at R
        have fz := fr_runsTold c
        have eM2 := eM c
        have c148 : c 148 q = y 148 q := fc 148 q rfl
        have z150 : F_runsTold c 150 q = Int32.ofNat S := (fz 150 q rfl).trans ((fc 150 q rfl).trans eS)
        have z149 : F_runsTold c 149 q = y 149 q := (fz 149 q rfl).trans (fc 149 q rfl)
        rw [q1, q2, c148, q3, z150, cS] at eM2
        have eM2 : F_write c what s_ = Sum.elim (fun z10 : SG => (Int32.ofNat S, z10)) (fun w10 : Nat × SG => (Int32.ofNat w10.1, w10.2)) (itx (B_write_21 what s_) 0 S (F_runsTold c)) := eM2
        rw [es, wrX q what S hS] at eM2
        rw [es, eM2]
        dsimp only
        generalize F_runsTold c = z at *
        obtain ⟨m1, m2⟩ := wrM hq what z (min S 24) (by omega)
        generalize itr (wrG q what) 0 (min S 24) z = f at *
        have ft : Fr WSr y f := ((fc.wk rfl).tr (fz.wk rfl)).tr (s1 := z) (fun b j hb => by
          have hb : ¬ (148 ≤ b ∧ b ≤ 152) := fun w => by rw [inW_r 148 152 w.1 w.2 rfl] at hb; cases hb
          exact m2 b j (by omega))
        have fo : ∀ b j, 115 ≤ b → b ≤ 122 → f b j = c b j := fun b j b1 b2 => by
          rw [m2 b j (by omega)]
          exact (fz.ag [(115, 122, none)] rfl) b j (inW_r 115 122 b1 b2 rfl)
        have g3 : ∀ b j, 148 ≤ b → b ≤ 150 → f b j = y b j := fun b j b1 b2 => by
          rw [m2 b j (by omega), (fz.ag [(148, 150, none)] rfl) b j (inW_r 148 150 b1 b2 rfl)]
          exact (fc.ag [(148, 150, none)] rfl) b j (inW_r 148 150 b1 b2 rfl)
        refine ⟨t1.shr ft ⟨KHs_upd t1.1.2.2.2.2.1 (q := q) (fun b j b1 b2 b3 b4 => ?_) (fun b j b1 b2 b3 => g3 b j b1 b2) (fun j hj => ?_) ⟨?_, ?_, ?_, ?_, ?_, fun i hi => ?_⟩, ?_⟩, rfl⟩
        · rw [fo b j b3 b4]; exact w2 b j (by omega)
        · rw [m2 151 j (by omega), fz 151 j rfl]; exact fc 151 j rfl
        · rw [fo _ 1 (by omega) (by omega), w2 _ 1 (by omega), g3 148 q (by omega) (by omega)]; exact k1
        · rw [fo _ 2 (by omega) (by omega), w2 _ 2 (by omega), g3 149 q (by omega) (by omega)]; exact k2
        · rw [fo _ 3 (by omega) (by omega), w2 _ 3 (by omega), g3 150 q (by omega) (by omega)]; exact k3
        · rw [g3 150 q (by omega) (by omega)]; exact k4
        · rw [g3 150 q (by omega) (by omega)]; exact k5
        · rw [fo _ i (by omega) (by omega)]
          by_cases w : i < min S 24
          · rw [w1 i w, m1 i w, z149, k2]
            have r := R.2.2.2.2.2.2.2 i (by omega)
            have u := t2.1 i (by omega)
            rw [u.1, u.2.1, r.1, r.2.1]
          · rw [w2 _ i (by omega), m2 151 _ (by omega), fz 151 _ rfl, fc 151 _ rfl]
            exact k6 i hi
        · rw [m2 0 4 (by omega), m2 123 46 (by omega), fz 0 4 rfl, fz 123 46 rfl, fc 0 4 rfl, fc 123 46 rfl]
          exact t1.1.2.2.2.2.2
/-! copy -/
theorem hr_iff {s : SG} {q : Nat} (k : KHq s q) {f m : Int32} : G_hr q s f m = true ↔ 0 ≤ f.toInt ∧ 0 ≤ m.toInt ∧ f.toInt + m.toInt ≤ (s 150 q).toInt := by
  obtain ⟨k1, k2, k3, k4, k5, k6⟩ := k
  have k5 : (s 150 q).toInt.toNat ≤ 60 := k5
  have e0 : (0 : Int32).toInt = 0 := by decide
  have f1 := i32_le f
  have m1 := i32_le m
  unfold G_hr
  rw [k3]
  cases a : m_cmp .lt f 0 with
  | true =>
    have := m_lt_iff.mp a
    exact ⟨fun w => (by cases w), fun w => by omega⟩
  | false =>
    have a := m_ff m_lt_iff a
    cases b : m_cmp .lt m 0 with
    | true =>
      have := m_lt_iff.mp b
      exact ⟨fun w => (by cases w), fun w => by omega⟩
    | false =>
      have b := m_ff m_lt_iff b
      have d : (s 150 q - m).toInt = (s 150 q).toInt - m.toInt := i32_sub (by omega) (by omega)
      cases c : m_cmp .gt f (s 150 q - m) with
      | true =>
        have := m_gt_iff.mp c
        exact ⟨fun w => (by cases w), fun w => by omega⟩
      | false =>
        have := m_ff m_gt_iff c
        exact ⟨fun _ => by omega, fun _ => rfl⟩
theorem mvM {q i : Nat} (hq : q < 4) (s_ i_ : Int32) (es : s_ = Int32.ofNat q) (ei : i_ = Int32.ofNat i) (y : SG) : ∀ n, i + n ≤ 60 → (∀ k, k < n → itr (B_copy_71 s_ i_) 0 n y 152 k = y 151 (60 * q + i + k)) ∧ ∀ b j, b ≠ 152 → itr (B_copy_71 s_ i_) 0 n y b j = y b j := by
  intro n
  induction n with
  | zero => exact fun _ => ⟨fun i hi => absurd hi (by omega), fun b j _ => rfl⟩
  | succ n ih =>
    intro hn
    obtain ⟨k1, k2⟩ := ih (by omega)
    rw [itr_0]
    generalize itr (B_copy_71 s_ i_) 0 n y = a at *
    have ix : (((60 * s_) + i_) + (Int32.ofNat n)).toNatClampNeg = 60 * q + i + n := by
      rw [es, ei, show ((60 * Int32.ofNat q) + Int32.ofNat i) + Int32.ofNat n = Int32.ofNat (60 * q + i + n) from ofn_add (ofn_add (ofn_mul rfl rfl) rfl) rfl]
      exact ofn_c (by omega)
    have e : B_copy_71 s_ i_ n a = uset a 152 n (y 151 (60 * q + i + n)) := by
      unfold B_copy_71
      dsimp only
      rw [ix, k2 151 _ (by decide)]
    rw [e]
    refine ⟨fun k hk => ?_, fun b j hb => ?_⟩
    · by_cases w : k = n
      · rw [w]; exact uset_eq _ _ _ _
      · rw [uset_nj w]; exact k1 k (by omega)
    · rw [uset_na hb]; exact k2 b j hb
theorem mvN {r j : Nat} (hr : r < 4) (t_ j_ : Int32) (et : t_ = Int32.ofNat r) (ej : j_ = Int32.ofNat j) (y : SG) : ∀ n, j + n ≤ 60 → (∀ k, k < n → itr (B_copy_92 t_ j_) 0 n y 151 (60 * r + j + k) = y 152 k) ∧ ∀ b l, ¬ (b = 151 ∧ 60 * r + j ≤ l ∧ l < 60 * r + j + n) → itr (B_copy_92 t_ j_) 0 n y b l = y b l := by
  intro n
  induction n with
  | zero => exact fun _ => ⟨fun i hi => absurd hi (by omega), fun b j _ => rfl⟩
  | succ n ih =>
    intro hn
    obtain ⟨k1, k2⟩ := ih (by omega)
    rw [itr_0]
    generalize itr (B_copy_92 t_ j_) 0 n y = a at *
    have ix : (((60 * t_) + j_) + (Int32.ofNat n)).toNatClampNeg = 60 * r + j + n := by
      rw [et, ej, show ((60 * Int32.ofNat r) + Int32.ofNat j) + Int32.ofNat n = Int32.ofNat (60 * r + j + n) from ofn_add (ofn_add (ofn_mul rfl rfl) rfl) rfl]
      exact ofn_c (by omega)
    have e : B_copy_92 t_ j_ n a = uset a 151 (60 * r + j + n) (y 152 n) := by
      unfold B_copy_92
      dsimp only
      rw [ix, k2 152 n (by omega)]
    rw [e]
    refine ⟨fun k hk => ?_, fun b l hb => ?_⟩
    · by_cases w : k = n
      · rw [w]; exact uset_eq _ _ _ _
      · rw [uset_nj (by omega)]; exact k1 k (by omega)
    · rw [uset_ne (by omega)]; exact k2 b l (by omega)
theorem kT {α : Type} (a b : α) : (bif true then a else b) = a := by
  have h : ∀ c : Bool, c = true → (bif c then a else b) = a := fun c hc => by
    subst hc
    rfl
  exact h true rfl
theorem kF {α : Type} (a b : α) : (bif false then a else b) = b := by
  have h : ∀ c : Bool, c = false → (bif c then a else b) = b := fun c hc => by
    subst hc
    rfl
  exact h false rfl
theorem lT : (!true) = false := by
  have h : ∀ c : Bool, c = true → (!c) = false := fun c hc => by
    subst hc
    rfl
  exact h true rfl
theorem lF : (!false) = true := by
  have h : ∀ c : Bool, c = false → (!c) = true := fun c hc => by
    subst hc
    rfl
  exact h false rfl
theorem cpM {y : SG} {s_ i t j n : Int32} (h1 : bl s_ 4 = true) (h2 : bl t 4 = true) : F_copy y s_ i t j n = bif m_cmp .eq (y 148 s_.toNatClampNeg) 0 then F_meets y 1 else (bif m_cmp .ne (y 148 t.toNatClampNeg) 0 then (bif m_cmp .eq (y 149 s_.toNatClampNeg) (y 149 t.toNatClampNeg) then (bif (bif m_cmp .lt i 0 then false else (bif m_cmp .lt j 0 then false else (bif m_cmp .lt n 0 then false else (bif m_cmp .gt (lg_cmp (i.toInt64 + n.toInt64) ((y 150 s_.toNatClampNeg).toInt64)) 0 then false else m_cmp .le (lg_cmp (j.toInt64 + n.toInt64) ((y 150 t.toNatClampNeg).toInt64)) 0)))) then (1, itr (B_copy_92 t j) 0 n.toNatClampNeg (itr (B_copy_71 s_ i) 0 n.toNatClampNeg y)) else F_meets y 2) else F_meets y 4) else F_meets y 1) := by
  dsimp only [F_copy]
  rw [isS_e, isS_n, h1, h2]
  simp only [lT, lF, kT, kF]
  cases m_cmp .eq (y 148 s_.toNatClampNeg) 0
  · cases m_cmp .ne (y 148 t.toNatClampNeg) 0
    · simp only [lT, lF, kT, kF]
    · cases m_cmp .eq (y 149 s_.toNatClampNeg) (y 149 t.toNatClampNeg)
      · simp only [lT, lF, kT, kF]
      · cases m_cmp .lt i 0
        · cases m_cmp .lt j 0
          · cases m_cmp .lt n 0
            · cases m_cmp .gt (lg_cmp (i.toInt64 + n.toInt64) ((y 150 s_.toNatClampNeg).toInt64)) 0
              · simp only [lT, lF, kT, kF]
              · simp only [lT, lF, kT, kF]
            · simp only [lT, lF, kT, kF]
          · simp only [lT, lF, kT, kF]
        · simp only [lT, lF, kT, kF]
  · simp only [lT, lF, kT, kF]
theorem q_copy {s : SG} (h : KF s) (s_ i t j n : Int32) : QK (F_ccopy s s_ i t j n) (fun y => F_copy y s_ i t j n) := by
  have eC := cs_ccopy s s_ i t j n
  cases q1 : bl s_ 4 with
  | false =>
    rw [q1, kF] at eC
    refine same_q h eC ?_
    dsimp only [F_copy]
    rw [isS_e, q1]
    simp only [lT, lF, kT, kF]
  | true =>
    cases q2 : bl t 4 with
    | false =>
      rw [q1, q2, kT, kF] at eC
      refine same_q h eC ?_
      dsimp only [F_copy]
      rw [isS_e, isS_n, q1, q2]
      simp only [lT, lF, kT, kF]
    | true =>
      rw [q1, q2, kT, kT] at eC
      obtain ⟨es, hq⟩ := bl_ofn q1
      obtain ⟨et, hr⟩ := bl_ofn q2
      have hq : s_.toNatClampNeg < 4 := hq
      have hr : t.toNatClampNeg < 4 := hr
      have eM : ∀ y, _ := fun y => cpM (y := y) (i := i) (j := j) (n := n) q1 q2
      generalize s_.toNatClampNeg = q at *
      generalize t.toNatClampNeg = r at *
      have Kq := h.1.2.2.2.2.1 q hq
      have Kr := h.1.2.2.2.2.1 r hr
      unfold G_ccopy at eC
      rw [Kq.1, eq_ne (s (115 + 2 * r) 1) 0, Kr.1, Bool.not_not, Kq.2.1, Kr.2.1] at eC
      have find : ∀ v : Int32, F_ccopy s s_ i t j n = F_find s v → F_copy (F_find s v).2 s_ i t j n = F_meets (F_find s v).2 v → QK (F_ccopy s s_ i t j n) (fun y => F_copy y s_ i t j n) := fun v a b => find_q h a b
      have c148 : ∀ v p, (F_find s v).2 148 p = s 148 p := fun _ _ => rfl
      have c149 : ∀ v p, (F_find s v).2 149 p = s 149 p := fun _ _ => rfl
      have c150 : ∀ v p, (F_find s v).2 150 p = s 150 p := fun _ _ => rfl
      cases q3 : m_cmp .ne (s 148 q) 0 with
      | false =>
        rw [q3] at eC
        simp only [lT, lF, kT, kF] at eC
        refine find 1 eC ?_
        rw [eM, c148, eq_ne, q3]
        simp only [lT, lF, kT, kF]
      | true =>
        cases q4 : m_cmp .ne (s 148 r) 0 with
        | false =>
          rw [q3, q4] at eC
          simp only [lT, lF, kT, kF] at eC
          refine find 1 eC ?_
          rw [eM, c148, c148, eq_ne, q3, q4]
          simp only [lT, lF, kT, kF]
        | true =>
          cases q5 : m_cmp .eq (s 149 q) (s 149 r) with
          | false =>
            rw [q3, q4, q5] at eC
            simp only [lT, lF, kT, kF] at eC
            refine find 4 eC ?_
            rw [eM, c148, c148, c149, c149, eq_ne, q3, q4, q5]
            simp only [lT, lF, kT, kF]
          | true =>
            rw [q3, q4, q5] at eC
            simp only [lT, lF, kT, kF] at eC
            have iq := hr_iff Kq (f := i) (m := n)
            have ir := hr_iff Kr (f := j) (m := n)
            have e0 : (0 : Int32).toInt = 0 := by decide
            have cond : (bif m_cmp .lt i 0 then false else (bif m_cmp .lt j 0 then false else (bif m_cmp .lt n 0 then false else (bif m_cmp .gt (lg_cmp (i.toInt64 + n.toInt64) ((s 150 q).toInt64)) 0 then false else m_cmp .le (lg_cmp (j.toInt64 + n.toInt64) ((s 150 r).toInt64)) 0)))) = true ↔ 0 ≤ i.toInt ∧ 0 ≤ j.toInt ∧ 0 ≤ n.toInt ∧ i.toInt + n.toInt ≤ (s 150 q).toInt ∧ j.toInt + n.toInt ≤ (s 150 r).toInt := by
              have g1 := lgc_gt (x := i.toInt64 + n.toInt64) (y := (s 150 q).toInt64)
              have g2 := lgc_le (x := j.toInt64 + n.toInt64) (y := (s 150 r).toInt64)
              rw [i64_sum, Int32.toInt_toInt64] at g1 g2
              cases a1 : m_cmp .lt i 0 with
              | true =>
                have := m_lt_iff.mp a1
                exact ⟨fun w => (by cases w), fun w => by omega⟩
              | false =>
                have a1 := m_ff m_lt_iff a1
                cases a2 : m_cmp .lt j 0 with
                | true =>
                  have := m_lt_iff.mp a2
                  exact ⟨fun w => (by cases w), fun w => by omega⟩
                | false =>
                  have a2 := m_ff m_lt_iff a2
                  cases a3 : m_cmp .lt n 0 with
                  | true =>
                    have := m_lt_iff.mp a3
                    exact ⟨fun w => (by cases w), fun w => by omega⟩
                  | false =>
                    have a3 := m_ff m_lt_iff a3
                    cases a4 : m_cmp .gt (lg_cmp (i.toInt64 + n.toInt64) ((s 150 q).toInt64)) 0 with
                    | true =>
                      have := g1.mp a4
                      exact ⟨fun w => (by cases w), fun w => by omega⟩
                    | false =>
                      have a4 := m_ff g1 a4
                      show m_cmp .le (lg_cmp (j.toInt64 + n.toInt64) ((s 150 r).toInt64)) 0 = true ↔ _
                      rw [g2]
                      exact ⟨fun w => by omega, fun w => by omega⟩
            have bad : ¬ (0 ≤ i.toInt ∧ 0 ≤ j.toInt ∧ 0 ≤ n.toInt ∧ i.toInt + n.toInt ≤ (s 150 q).toInt ∧ j.toInt + n.toInt ≤ (s 150 r).toInt) → F_ccopy s s_ i t j n = F_find s 2 → QK (F_ccopy s s_ i t j n) (fun y => F_copy y s_ i t j n) := fun w a => by
              refine find 2 a ?_
              rw [eM, c148, c148, c149, c149, c150, c150, eq_ne, q3, q4, q5, Bool.eq_false_iff.mpr (fun x => w (cond.mp x))]
              simp only [lT, lF, kT, kF]
            cases q6 : G_hr q s i n with
            | false =>
              rw [q6, kF] at eC
              exact bad (fun w => by rw [iq.mpr ⟨w.1, w.2.2.1, w.2.2.2.1⟩] at q6; cases q6) eC
            | true =>
              cases q7 : G_hr r s j n with
              | false =>
                rw [q6, q7, kT, kF] at eC
                exact bad (fun w => by rw [ir.mpr ⟨w.2.1, w.2.2.1, w.2.2.2.2⟩] at q7; cases q7) eC
              | true =>
                rw [q6, q7, kT, kT] at eC
                obtain ⟨i0, n0, iN⟩ := iq.mp q6
                obtain ⟨j0, -, jN⟩ := ir.mp q7
                have ct := cond.mpr ⟨i0, j0, n0, iN, jN⟩
                have ei := (ofn_cl i i0).symm
                have ej := (ofn_cl j j0).symm
                have sq : (s 150 q).toInt.toNat ≤ 60 := Kq.2.2.2.2.1
                have sr : (s 150 r).toInt.toNat ≤ 60 := Kr.2.2.2.2.1
                have li : i.toNatClampNeg + n.toNatClampNeg ≤ 60 := by show i.toInt.toNat + n.toInt.toNat ≤ 60; omega
                have lj : j.toNatClampNeg + n.toNatClampNeg ≤ 60 := by show j.toInt.toNat + n.toInt.toNat ≤ 60; omega
                generalize i.toNatClampNeg = I at *
                generalize j.toNatClampNeg = J at *
                generalize n.toNatClampNeg = N at *
                have cm : ∀ b l, ¬ (b = 116 + 2 * r ∧ J ≤ l ∧ l < J + N) → mvs s (116 + 2 * q) I (116 + 2 * r) J N b l = s b l := fun b l w => if_neg w
                have cm2 : ∀ l, J ≤ l → l < J + N → mvs s (116 + 2 * q) I (116 + 2 * r) J N (116 + 2 * r) l = s (116 + 2 * q) (I + (l - J)) := fun l l1 l2 => if_pos ⟨rfl, l1, l2⟩
                unfold QK
                rw [eC]
                dsimp only
                generalize mvs s (116 + 2 * q) I (116 + 2 * r) J N = c at *
                have d8 : ∀ p, c 148 p = s 148 p := fun p => cm 148 p (by omega)
                have d9 : ∀ p, c 149 p = s 149 p := fun p => cm 149 p (by omega)
                have d0 : ∀ p, c 150 p = s 150 p := fun p => cm 150 p (by omega)
                rw [eM, d8, d8, d9, d9, d0, d0, eq_ne, q3, q4, q5, ct]
                simp only [lT, lF, kT, kF]
                obtain ⟨m1, m2⟩ := mvM hq s_ i es ei c N li
                generalize itr (B_copy_71 s_ i) 0 N c = y at *
                obtain ⟨p1, p2⟩ := mvN hr t j et ej y N lj
                generalize itr (B_copy_92 t j) 0 N y = f at *
                have f1 : ∀ b l, b ≠ 151 → b ≠ 152 → f b l = c b l := fun b l b1 b2 => (p2 b l (by omega)).trans (m2 b l b2)
                refine ⟨h.sh (fun b l hb => ?_) ⟨KHs_upd h.1.2.2.2.2.1 (q := r) (fun b l b1 b2 b3 b4 => ?_) (fun b l b1 b2 b3 => ?_) (fun l hl => ?_) ⟨?_, ?_, ?_, ?_, ?_, fun l hl => ?_⟩, ?_⟩, trivial⟩
                · have b1 : ¬ (115 ≤ b ∧ b ≤ 122) := fun w => by rw [inW_r 115 122 w.1 w.2 rfl] at hb; cases hb
                  have b2 : ¬ (148 ≤ b ∧ b ≤ 152) := fun w => by rw [inW_r 148 152 w.1 w.2 rfl] at hb; cases hb
                  rw [f1 b l (by omega) (by omega)]
                  exact cm b l (by omega)
                · rw [f1 b l (by omega) (by omega)]; exact cm b l (by omega)
                · rw [f1 b l (by omega) (by omega)]; exact cm b l (by omega)
                · rw [p2 151 l (by omega), m2 151 l (by decide)]; exact cm 151 l (by omega)
                · rw [f1 _ _ (by omega) (by omega), f1 148 r (by decide) (by decide), d8, cm _ _ (by omega)]; exact Kr.1
                · rw [f1 _ _ (by omega) (by omega), f1 149 r (by decide) (by decide), d9, cm _ _ (by omega)]; exact Kr.2.1
                · rw [f1 _ _ (by omega) (by omega), f1 150 r (by decide) (by decide), d0, cm _ _ (by omega)]; exact Kr.2.2.1
                · rw [f1 150 r (by decide) (by decide), d0]; exact Kr.2.2.2.1
                · rw [f1 150 r (by decide) (by decide), d0]; exact Kr.2.2.2.2.1
                · rw [f1 _ _ (by omega) (by omega)]
                  by_cases w : J ≤ l ∧ l < J + N
                  · have x := p1 (l - J) (by omega)
                    rw [show 60 * r + J + (l - J) = 60 * r + l by omega, m1 (l - J) (by omega), cm 151 _ (by omega)] at x
                    rw [cm2 l w.1 w.2, x, Kq.2.2.2.2.2 _ (by omega), show 60 * q + I + (l - J) = 60 * q + (I + (l - J)) by omega]
                  · rw [cm _ l (by omega), p2 151 _ (by omega), m2 151 _ (by decide), cm 151 _ (by omega)]
                    exact Kr.2.2.2.2.2 l hl
                · rw [f1 0 4 (by decide) (by decide), f1 123 46 (by decide) (by decide), cm 0 4 (by omega), cm 123 46 (by omega)]
                  exact h.1.2.2.2.2.2
end
section
/-! read, of both sides -/
def evR (A i : Nat) (s : SG) : Int32 × SG := F_cevent s (s (A + 1) (Int32.ofNat (3 * i)).toNatClampNeg) (s (A + 1) (Int32.ofNat (3 * i) + 1).toNatClampNeg) (s (A + 1) (Int32.ofNat (3 * i) + 2).toNatClampNeg)
def rdC (A : Nat) : Nat → Nat → SG → Int32 × SG
  | 0, i, s => (Int32.ofNat i, s)
  | n + 1, i, s => bif m_cmp .ge (Int32.ofNat (3 * i) + 2) (s A 3) then (Int32.ofNat i, s) else (bif m_cmp .ge (evR A i s).1 0 then rdC A n (i + 1) (evR A i s).2 else (Int32.ofNat i, (evR A i s).2))
theorem rdC_s (A n i : Nat) (s : SG) : rdC A (n + 1) i s = bif m_cmp .ge (Int32.ofNat (3 * i) + 2) (s A 3) then (Int32.ofNat i, s) else (bif m_cmp .ge (evR A i s).1 0 then rdC A n (i + 1) (evR A i s).2 else (Int32.ofNat i, (evR A i s).2)) := rfl
theorem evR_A {A i : Nat} {s : SG} (h1 : 115 ≤ A) (h2 : A ≤ 122) (j : Nat) : (evR A i s).2 A j = s A j := ((fr_cevent s _ _ _).ag [(115, 122, none)] rfl) A j (inW_r 115 122 h1 h2 rfl)
theorem ux_rdC {A : Nat} (h1 : 115 ≤ A) (h2 : A ≤ 122) (q_ : Int32) : ∀ (n i : Nat) (s : SG), i + n = 20 → (s A 3).toInt ≤ 60 → UP m_X6_read 22 [some (.ref 0), some (.int q_), some (.ref A), some (.int (Int32.ofNat i)), some (.int (Int32.ofNat (3 * i)))] [] s (Qb (rdC A n i s)) := by
  intro n
  induction n with
  | zero =>
    intro i s hi hS
    have ei : i = 20 := by omega
    subst ei
    have c : m_cmp .ge (Int32.ofNat (3 * 20) + 2) (s A 3) = true := m_ge_iff.mpr (by
      have e : (Int32.ofNat (3 * 20) + 2).toInt = 62 := by decide
      omega)
    refine UP.stp 5 (i1 := 27) (L1 := [some (.ref 0), some (.int q_), some (.ref A), some (.int (Int32.ofNat 20)), some (.int (Int32.ofNat (3 * 20)))]) (st1 := [.int (s A 3), .int (Int32.ofNat (3 * 20) + 2)]) (s1 := s) rfl ?_
    refine UP.icT rfl c ?_
    refine UP.stp 1 (i1 := 52) (L1 := [some (.ref 0), some (.int q_), some (.ref A), some (.int (Int32.ofNat 20)), some (.int (Int32.ofNat (3 * 20)))]) (st1 := [.int (Int32.ofNat 20)]) (s1 := s) rfl ?_
    exact UP.ret (r := some (.int (Int32.ofNat 20))) rfl ⟨rfl, rfl⟩
  | succ n ih =>
    intro i s hi hS
    rw [rdC_s]
    refine UP.stp 5 (i1 := 27) (L1 := [some (.ref 0), some (.int q_), some (.ref A), some (.int (Int32.ofNat i)), some (.int (Int32.ofNat (3 * i)))]) (st1 := [.int (s A 3), .int (Int32.ofNat (3 * i) + 2)]) (s1 := s) rfl ?_
    cases c : m_cmp .ge (Int32.ofNat (3 * i) + 2) (s A 3) with
    | true =>
      refine UP.icT rfl c ?_
      refine UP.stp 1 (i1 := 52) (L1 := [some (.ref 0), some (.int q_), some (.ref A), some (.int (Int32.ofNat i)), some (.int (Int32.ofNat (3 * i)))]) (st1 := [.int (Int32.ofNat i)]) (s1 := s) rfl ?_
      exact UP.ret (r := some (.int (Int32.ofNat i))) rfl ⟨rfl, rfl⟩
    | false =>
      refine UP.icF rfl c ?_
      refine UP.stp 17 (i1 := 45) (L1 := [some (.ref 0), some (.int q_), some (.ref A), some (.int (Int32.ofNat i)), some (.int (Int32.ofNat (3 * i)))]) (st1 := [.int (s (A + 1) (Int32.ofNat (3 * i) + 2).toNatClampNeg), .int (s (A + 1) (Int32.ofNat (3 * i) + 1).toNatClampNeg), .int (s (A + 1) (Int32.ofNat (3 * i)).toNatClampNeg), .ref 0]) (s1 := s) rfl ?_
      refine UP.cB (M1 := m_X6_event) (as := [.ref 0, .int (s (A + 1) (Int32.ofNat (3 * i)).toNatClampNeg), .int (s (A + 1) (Int32.ofNat (3 * i) + 1).toNatClampNeg), .int (s (A + 1) (Int32.ofNat (3 * i) + 2).toNatClampNeg)]) (rest := []) (T := evR A i s) rfl rfl (ux_cevent s _ _ _) (fun z e => ?_)
      have eA : z.2 A 3 = s A 3 := by rw [← e]; exact evR_A h1 h2 3
      rw [e, cF]
      cases c2 : m_cmp .ge z.1 0 with
      | true =>
        rw [cT]
        refine UP.ifT rfl c2 ?_
        refine UP.stp 3 (i1 := 22) (L1 := [some (.ref 0), some (.int q_), some (.ref A), some (.int (Int32.ofNat i + 1)), some (.int (Int32.ofNat (3 * i) + 3))]) (st1 := []) (s1 := z.2) rfl ?_
        rw [ofn_s, show Int32.ofNat (3 * i) + 3 = Int32.ofNat (3 * (i + 1)) from ofn_add rfl rfl]
        exact ih (i + 1) z.2 (by omega) (by rw [eA]; exact hS)
      | false =>
        rw [cF]
        refine UP.ifF rfl c2 ?_
        refine UP.stp 2 (i1 := 52) (L1 := [some (.ref 0), some (.int q_), some (.ref A), some (.int (Int32.ofNat i)), some (.int (Int32.ofNat (3 * i)))]) (st1 := [.int (Int32.ofNat i)]) (s1 := z.2) rfl ?_
        exact UP.ret (r := some (.int (Int32.ofNat i))) rfl ⟨rfl, rfl⟩
def F_cread (s : SG) (s_ : Int32) : Int32 × SG := bif bl s_ 4 then (bif m_cmp .eq (s (115 + 2 * s_.toNatClampNeg) 1) 0 then rdC (115 + 2 * s_.toNatClampNeg) 20 0 s else F_find s 1) else ((-2), s)
theorem ux_cread (s : SG) (s_ : Int32) (hS : ∀ q, q < 4 → (s (115 + 2 * q) 3).toInt ≤ 60) : UP m_X6_read 0 (m_ent 5 [.ref 0, .int s_]) [] s (Qb (F_cread s s_)) := by
  unfold F_cread
  refine UP.stp 2 (i1 := 2) (L1 := [some (.ref 0), some (.int s_), none, none, none]) (st1 := [.int 4, .int s_]) (s1 := s) rfl ?_
  refine UP.cI (M1 := m_X6_isBelow) (as := [.int s_, .int 4]) (rest := []) (T := F_isBelow s s_ 4) rfl rfl (ux_isBelow s s_ 4) ?_
  cases b : bl s_ 4 with
  | false =>
    rw [cF]
    refine UP.ifF rfl (by rw [bl_n, b]) ?_
    refine UP.stp 1 (i1 := 5) (L1 := [some (.ref 0), some (.int s_), none, none, none]) (st1 := [.int (-2)]) (s1 := s) rfl ?_
    exact UP.ret (r := some (.int (-2))) rfl ⟨rfl, rfl⟩
  | true =>
    rw [cT]
    refine UP.ifT rfl (by rw [bl_n, b]) ?_
    obtain ⟨es, hq⟩ := bl_ofn b
    have hq : s_.toNatClampNeg < 4 := hq
    generalize s_.toNatClampNeg = q at *
    refine UP.stp 3 (i1 := 9) (L1 := [some (.ref 0), some (.int s_), none, none, none]) (st1 := [.int s_, .ref 9]) (s1 := s) rfl ?_
    refine UP.aald (e := q) (r := 115 + 2 * q) rfl es (by omega) rfl ?_
    refine UP.stp 3 (i1 := 13) (L1 := [some (.ref 0), some (.int s_), some (.ref (115 + 2 * q)), none, none]) (st1 := [.int (s (115 + 2 * q) 1)]) (s1 := s) rfl ?_
    cases c : m_cmp .eq (s (115 + 2 * q) 1) 0 with
    | true =>
      rw [cT]
      refine UP.ifT rfl c ?_
      refine UP.stp 4 (i1 := 22) (L1 := [some (.ref 0), some (.int s_), some (.ref (115 + 2 * q)), some (.int (Int32.ofNat 0)), some (.int (Int32.ofNat (3 * 0)))]) (st1 := []) (s1 := s) rfl ?_
      exact ux_rdC (by omega) (by omega) s_ 20 0 s rfl (hS q hq)
    | false =>
      rw [cF]
      refine UP.ifF rfl c ?_
      refine UP.stp 2 (i1 := 16) (L1 := [some (.ref 0), some (.int s_), some (.ref (115 + 2 * q)), none, none]) (st1 := [.int 1, .ref 0]) (s1 := s) rfl ?_
      refine UP.cB (M1 := m_X6_find) (as := [.ref 0, .int 1]) (rest := []) (T := F_find s 1) rfl rfl (ux_find s 1) (fun z e => ?_)
      rw [e]
      exact UP.ret (r := some (.int z.1)) rfl ⟨rfl, rfl⟩
def emR (s_ : Int32) (i : Nat) (s : SG) : Int32 × SG := F_event s (s 151 ((60 * s_) + 3 * Int32.ofNat i).toNatClampNeg) (s 151 (((60 * s_) + 3 * Int32.ofNat i) + 1).toNatClampNeg) (s 151 (((60 * s_) + 3 * Int32.ofNat i) + 2).toNatClampNeg)
def rdM (s_ : Int32) : Nat → Nat → SG → Int32 × SG
  | 0, i, s => (Int32.ofNat i, s)
  | n + 1, i, s => bif m_cmp .ge (3 * Int32.ofNat i + 2) (s 150 s_.toNatClampNeg) then (Int32.ofNat i, s) else (bif m_cmp .le (emR s_ i s).1 0 then (Int32.ofNat i, (emR s_ i s).2) else rdM s_ n (i + 1) (emR s_ i s).2)
theorem rdM_s (s_ : Int32) (n i : Nat) (s : SG) : rdM s_ (n + 1) i s = bif m_cmp .ge (3 * Int32.ofNat i + 2) (s 150 s_.toNatClampNeg) then (Int32.ofNat i, s) else (bif m_cmp .le (emR s_ i s).1 0 then (Int32.ofNat i, (emR s_ i s).2) else rdM s_ n (i + 1) (emR s_ i s).2) := rfl
theorem ux_rdM (s_ : Int32) : ∀ (n i : Nat) (s : SG), i + n = 20 → (s 150 s_.toNatClampNeg).toInt ≤ 60 → UP m_X7_read 20 [some (.ref 123), some (.int s_), some (.int (Int32.ofNat i)), some (.int (60 * s_))] [] s (Qb (rdM s_ n i s)) := by
  intro n
  induction n with
  | zero =>
    intro i s hi hS
    have ei : i = 20 := by omega
    subst ei
    have c : m_cmp .ge (3 * Int32.ofNat 20 + 2) (s 150 s_.toNatClampNeg) = true := m_ge_iff.mpr (by
      have e : (3 * Int32.ofNat 20 + 2).toInt = 62 := by decide
      omega)
    refine UP.stp 9 (i1 := 29) (L1 := [some (.ref 123), some (.int s_), some (.int (Int32.ofNat 20)), some (.int (60 * s_))]) (st1 := [.int (s 150 s_.toNatClampNeg), .int (3 * Int32.ofNat 20 + 2)]) (s1 := s) rfl ?_
    refine UP.icT rfl c ?_
    refine UP.stp 1 (i1 := 64) (L1 := [some (.ref 123), some (.int s_), some (.int (Int32.ofNat 20)), some (.int (60 * s_))]) (st1 := [.int (Int32.ofNat 20)]) (s1 := s) rfl ?_
    exact UP.ret (r := some (.int (Int32.ofNat 20))) rfl ⟨rfl, rfl⟩
  | succ n ih =>
    intro i s hi hS
    rw [rdM_s]
    refine UP.stp 9 (i1 := 29) (L1 := [some (.ref 123), some (.int s_), some (.int (Int32.ofNat i)), some (.int (60 * s_))]) (st1 := [.int (s 150 s_.toNatClampNeg), .int (3 * Int32.ofNat i + 2)]) (s1 := s) rfl ?_
    cases c : m_cmp .ge (3 * Int32.ofNat i + 2) (s 150 s_.toNatClampNeg) with
    | true =>
      refine UP.icT rfl c ?_
      refine UP.stp 1 (i1 := 64) (L1 := [some (.ref 123), some (.int s_), some (.int (Int32.ofNat i)), some (.int (60 * s_))]) (st1 := [.int (Int32.ofNat i)]) (s1 := s) rfl ?_
      exact UP.ret (r := some (.int (Int32.ofNat i))) rfl ⟨rfl, rfl⟩
    | false =>
      refine UP.icF rfl c ?_
      refine UP.stp 29 (i1 := 59) (L1 := [some (.ref 123), some (.int s_), some (.int (Int32.ofNat i)), some (.int (60 * s_))]) (st1 := [.int (s 151 (((60 * s_) + 3 * Int32.ofNat i) + 2).toNatClampNeg), .int (s 151 (((60 * s_) + 3 * Int32.ofNat i) + 1).toNatClampNeg), .int (s 151 ((60 * s_) + 3 * Int32.ofNat i).toNatClampNeg), .ref 123]) (s1 := s) rfl ?_
      refine UP.cB (M1 := m_X7_event) (as := [.ref 123, .int (s 151 ((60 * s_) + 3 * Int32.ofNat i).toNatClampNeg), .int (s 151 (((60 * s_) + 3 * Int32.ofNat i) + 1).toNatClampNeg), .int (s 151 (((60 * s_) + 3 * Int32.ofNat i) + 2).toNatClampNeg)]) (rest := []) (T := emR s_ i s) rfl rfl (ux_event s _ _ _) (fun z e => ?_)
      have eA : z.2 150 s_.toNatClampNeg = s 150 s_.toNatClampNeg := by rw [← e]; exact fr_event s _ _ _ 150 _ rfl
      rw [e, cF]
      cases c2 : m_cmp .le z.1 0 with
      | true =>
        rw [cT]
        refine UP.ifT rfl c2 ?_
        refine UP.stp 1 (i1 := 64) (L1 := [some (.ref 123), some (.int s_), some (.int (Int32.ofNat i)), some (.int (60 * s_))]) (st1 := [.int (Int32.ofNat i)]) (s1 := z.2) rfl ?_
        exact UP.ret (r := some (.int (Int32.ofNat i))) rfl ⟨rfl, rfl⟩
      | false =>
        rw [cF]
        refine UP.ifF rfl c2 ?_
        refine UP.stp 2 (i1 := 20) (L1 := [some (.ref 123), some (.int s_), some (.int (Int32.ofNat i + 1)), some (.int (60 * s_))]) (st1 := []) (s1 := z.2) rfl ?_
        rw [ofn_s]
        exact ih (i + 1) z.2 (by omega) (by rw [eA]; exact hS)
def F_read (s : SG) (s_ : Int32) : Int32 × SG := bif bl s_ 4 then (bif m_cmp .ne (s 148 s_.toNatClampNeg) 0 then rdM s_ 20 0 s else F_meets s 1) else ((-2), s)
theorem ux_read (s : SG) (s_ : Int32) (hS : bl s_ 4 = true → (s 150 s_.toNatClampNeg).toInt ≤ 60) : UP m_X7_read 0 (m_ent 4 [.ref 123, .int s_]) [] s (Qb (F_read s s_)) := by
  unfold F_read
  refine UP.stp 1 (i1 := 1) (L1 := [some (.ref 123), some (.int s_), none, none]) (st1 := [.int s_]) (s1 := s) rfl ?_
  refine UP.cI (M1 := m_X7_isSheet) (as := [.int s_]) (rest := []) (T := F_isSheet s s_) rfl rfl (ux_isSheet s s_) ?_
  cases b : bl s_ 4 with
  | false =>
    rw [cF]
    refine UP.ifF rfl (by rw [isS_n, b]) ?_
    refine UP.stp 1 (i1 := 4) (L1 := [some (.ref 123), some (.int s_), none, none]) (st1 := [.int (-2)]) (s1 := s) rfl ?_
    exact UP.ret (r := some (.int (-2))) rfl ⟨rfl, rfl⟩
  | true =>
    rw [cT]
    refine UP.ifT rfl (by rw [isS_n, b]) ?_
    refine UP.stp 4 (i1 := 9) (L1 := [some (.ref 123), some (.int s_), none, none]) (st1 := [.int (s 148 s_.toNatClampNeg)]) (s1 := s) rfl ?_
    cases c : m_cmp .ne (s 148 s_.toNatClampNeg) 0 with
    | true =>
      rw [cT]
      refine UP.ifT rfl c ?_
      refine UP.stp 6 (i1 := 20) (L1 := [some (.ref 123), some (.int s_), some (.int (Int32.ofNat 0)), some (.int (60 * s_))]) (st1 := []) (s1 := s) rfl ?_
      exact ux_rdM s_ 20 0 s rfl (hS b)
    | false =>
      rw [cF]
      refine UP.ifF rfl c ?_
      refine UP.stp 2 (i1 := 12) (L1 := [some (.ref 123), some (.int s_), none, none]) (st1 := [.int 1, .ref 123]) (s1 := s) rfl ?_
      refine UP.cB (M1 := m_X7_meets) (as := [.ref 123, .int 1]) (rest := []) (T := F_meets s 1) rfl rfl (ux_meets s 1) (fun z e => ?_)
      rw [e]
      exact UP.ret (r := some (.int z.1)) rfl ⟨rfl, rfl⟩
/-! what they come to -/
def gdE (v : NI) (i : Nat) : Bool := bif bl (v (3 * i)) 3 then (bif bl (v (3 * i + 1)) 24 then bl (v (3 * i + 2)) 8 else false) else false
def goE (v : NI) (S N i : Nat) : Prop := 3 * i + 2 < S ∧ N + i < 8 ∧ gdE v i = true
def PC (s0 : SG) (v : NI) (N i : Nat) (s : SG) : Prop := Fr [(0, 0, some 12), (0, 0, some 13), (2, 2, some 3), (3, 5, none)] s0 s ∧ s 2 3 = Int32.ofNat (N + i) ∧ (∀ e, s 3 e = if N ≤ e ∧ e < N + i then v (3 * (e - N)) else s0 3 e) ∧ (∀ e, s 4 e = if N ≤ e ∧ e < N + i then v (3 * (e - N) + 1) else s0 4 e) ∧ (∀ e, s 5 e = if N ≤ e ∧ e < N + i then v (3 * (e - N) + 2) else s0 5 e) ∧ (i ≠ 0 → s 0 12 = 1 ∧ s 0 13 = 1) ∧ (i = 0 → s = s0)
def PM (s0 : SG) (v : NI) (N i : Nat) (s : SG) : Prop := Fr [(123, 123, some 11), (130, 132, none)] s0 s ∧ s 123 11 = Int32.ofNat (N + i) ∧ (∀ e, s 130 e = if N ≤ e ∧ e < N + i then v (3 * (e - N)) else s0 130 e) ∧ (∀ e, s 131 e = if N ≤ e ∧ e < N + i then v (3 * (e - N) + 1) else s0 131 e) ∧ (∀ e, s 132 e = if N ≤ e ∧ e < N + i then v (3 * (e - N) + 2) else s0 132 e)
def apE (s : SG) (N : Nat) (k m u : Int32) : SG := F_mark (uset (uset (uset (uset s 3 N k) 4 N m) 5 N u) 2 3 (Int32.ofNat (N + 1)))
def amE (s : SG) (N : Nat) (k m u : Int32) : SG := uset (uset (uset (uset s 130 N k) 131 N m) 132 N u) 123 11 (Int32.ofNat (N + 1))
theorem evC1 {s : SG} {N : Nat} (hN : N ≤ 8) (e : s 2 3 = Int32.ofNat N) (k m u : Int32) : (N < 8 ∧ (bif bl k 3 then (bif bl m 24 then bl u 8 else false) else false) = true ∧ F_cevent s k m u = (Int32.ofNat (N + 1), apE s N k m u)) ∨ (¬ (N < 8 ∧ (bif bl k 3 then (bif bl m 24 then bl u 8 else false) else false) = true) ∧ (F_cevent s k m u).2 = s ∧ m_cmp .ge (F_cevent s k m u).1 0 = false) := by
  have cN : (Int32.ofNat N).toNatClampNeg = N := ofn_c (by omega)
  have eC : F_cevent s k m u = bif m_cmp .eq (F_isBelow s k 3) 0 then (((-2), s)) else (bif m_cmp .eq (F_isBelow s m 24) 0 then (((-2), s)) else (bif m_cmp .ne (F_isBelow s u 8) 0 then (bif m_cmp .lt (s 2 3) 8 then (s 2 3 + 1, F_mark (uset (uset (uset (uset s 3 ((s 2 3).toNatClampNeg) k) 4 ((s 2 3).toNatClampNeg) m) 5 ((s 2 3).toNatClampNeg) u) 2 3 (s 2 3 + 1))) else (((-4), s))) else (((-2), s)))) := rfl
  rw [bl_e, bl_e, bl_n, e, cN, lt8 hN, ofn_s] at eC
  rw [eC]
  cases bl k 3 with
  | false => exact Or.inr ⟨fun w => (by cases w.2), rfl, rfl⟩
  | true =>
    cases bl m 24 with
    | false => exact Or.inr ⟨fun w => (by cases w.2), rfl, rfl⟩
    | true =>
      cases bl u 8 with
      | false => exact Or.inr ⟨fun w => (by cases w.2), rfl, rfl⟩
      | true =>
        cases q : m_cmp .ne (Int32.ofNat N) 8 with
        | false => exact Or.inr ⟨fun w => (by
            rw [m_ne_iff.mpr (fun x => by
              have x := congrArg Int32.toInt x
              rw [ofn_int (by omega)] at x
              have e8 : (8 : Int32).toInt = 8 := by decide
              omega)] at q
            cases q), rfl, rfl⟩
        | true => exact Or.inl ⟨ne8 hN q, rfl, rfl⟩
theorem evM1 {s : SG} {N : Nat} (hN : N ≤ 8) (e : s 123 11 = Int32.ofNat N) (k m u : Int32) : (N < 8 ∧ (bif bl k 3 then (bif bl m 24 then bl u 8 else false) else false) = true ∧ F_event s k m u = (Int32.ofNat (N + 1), amE s N k m u)) ∨ (¬ (N < 8 ∧ (bif bl k 3 then (bif bl m 24 then bl u 8 else false) else false) = true) ∧ (F_event s k m u).2 = s ∧ m_cmp .le (F_event s k m u).1 0 = true) := by
  have cN : (Int32.ofNat N).toNatClampNeg = N := ofn_c (by omega)
  have eC : F_event s k m u = bif m_cmp .eq (F_isThree s k) 0 then (((-2), s)) else (bif m_cmp .eq (F_isMinute s m) 0 then (((-2), s)) else (bif m_cmp .ne (F_isEight s u) 0 then (bif m_cmp .ne (s 123 11) 8 then (s 123 11 + 1, uset (uset (uset (uset s 130 ((s 123 11).toNatClampNeg) k) 131 ((s 123 11).toNatClampNeg) m) 132 ((s 123 11).toNatClampNeg) u) 123 11 (s 123 11 + 1)) else (((-4), s))) else (((-2), s)))) := rfl
  rw [is3_e, isM_e, is8_n, e, cN, ofn_s] at eC
  rw [eC]
  cases bl k 3 with
  | false => exact Or.inr ⟨fun w => (by cases w.2), rfl, rfl⟩
  | true =>
    cases bl m 24 with
    | false => exact Or.inr ⟨fun w => (by cases w.2), rfl, rfl⟩
    | true =>
      cases bl u 8 with
      | false => exact Or.inr ⟨fun w => (by cases w.2), rfl, rfl⟩
      | true =>
        cases q : m_cmp .ne (Int32.ofNat N) 8 with
        | false => exact Or.inr ⟨fun w => (by
            rw [m_ne_iff.mpr (fun x => by
              have x := congrArg Int32.toInt x
              rw [ofn_int (by omega)] at x
              have e8 : (8 : Int32).toInt = 8 := by decide
              omega)] at q
            cases q), rfl, rfl⟩
        | true => exact Or.inl ⟨ne8 hN q, rfl, rfl⟩
theorem ifx {N i e : Nat} {a b c : Int32} (h : e = N + i → c = a) (h2 : ¬ e = N + i → c = b) (d : Int32) (hd : (if N ≤ e ∧ e < N + i then a else d) = b) : (if N ≤ e ∧ e < N + (i + 1) then a else d) = c := by
  by_cases w : e = N + i
  · rw [if_pos (by omega), h w]
  · rw [h2 w, ← hd]
    by_cases x : N ≤ e ∧ e < N + i
    · rw [if_pos x, if_pos (by omega)]
    · rw [if_neg x, if_neg (by omega)]
theorem PC.app {s0 s : SG} {v : NI} {N i : Nat} (h : PC s0 v N i s) : PC s0 v N (i + 1) (apE s (N + i) (v (3 * i)) (v (3 * i + 1)) (v (3 * i + 2))) := by
  obtain ⟨f, a, b3, b4, b5, -, -⟩ := h
  have fu : Fr [(2, 2, some 3), (3, 5, none)] s (uset (uset (uset (uset s 3 (N + i) (v (3 * i))) 4 (N + i) (v (3 * i + 1))) 5 (N + i) (v (3 * i + 2))) 2 3 (Int32.ofNat (N + i + 1))) := Fr.uset rfl (Fr.uset rfl (Fr.uset rfl (Fr.uset rfl (Fr.rf _ _))))
  have u2 : uset (uset (uset (uset s 3 (N + i) (v (3 * i))) 4 (N + i) (v (3 * i + 1))) 5 (N + i) (v (3 * i + 2))) 2 3 (Int32.ofNat (N + i + 1)) 2 3 = Int32.ofNat (N + i + 1) := uset_eq _ _ _ _
  have u3 : ∀ e, uset (uset (uset (uset s 3 (N + i) (v (3 * i))) 4 (N + i) (v (3 * i + 1))) 5 (N + i) (v (3 * i + 2))) 2 3 (Int32.ofNat (N + i + 1)) 3 e = if e = N + i then v (3 * i) else s 3 e := fun e => by
    rw [uset_na (by decide), uset_na (by decide), uset_na (by decide)]
    by_cases w : e = N + i
    · rw [if_pos w, w]; exact uset_eq _ _ _ _
    · rw [if_neg w]; exact uset_nj w
  have u4 : ∀ e, uset (uset (uset (uset s 3 (N + i) (v (3 * i))) 4 (N + i) (v (3 * i + 1))) 5 (N + i) (v (3 * i + 2))) 2 3 (Int32.ofNat (N + i + 1)) 4 e = if e = N + i then v (3 * i + 1) else s 4 e := fun e => by
    rw [uset_na (by decide), uset_na (by decide)]
    by_cases w : e = N + i
    · rw [if_pos w, w]; exact uset_eq _ _ _ _
    · rw [if_neg w, uset_nj w]; exact uset_na (by decide)
  have u5 : ∀ e, uset (uset (uset (uset s 3 (N + i) (v (3 * i))) 4 (N + i) (v (3 * i + 1))) 5 (N + i) (v (3 * i + 2))) 2 3 (Int32.ofNat (N + i + 1)) 5 e = if e = N + i then v (3 * i + 2) else s 5 e := fun e => by
    rw [uset_na (by decide)]
    by_cases w : e = N + i
    · rw [if_pos w, w]; exact uset_eq _ _ _ _
    · rw [if_neg w, uset_nj w, uset_na (by decide)]; exact uset_na (by decide)
  have eA : apE s (N + i) (v (3 * i)) (v (3 * i + 1)) (v (3 * i + 2)) = F_mark (uset (uset (uset (uset s 3 (N + i) (v (3 * i))) 4 (N + i) (v (3 * i + 1))) 5 (N + i) (v (3 * i + 2))) 2 3 (Int32.ofNat (N + i + 1))) := rfl
  rw [eA]
  generalize uset (uset (uset (uset s 3 (N + i) (v (3 * i))) 4 (N + i) (v (3 * i + 1))) 5 (N + i) (v (3 * i + 2))) 2 3 (Int32.ofNat (N + i + 1)) = u at *
  have fm := fr_mark u
  have x12 : F_mark u 0 12 = 1 := rfl
  have x13 : F_mark u 0 13 = 1 := rfl
  generalize F_mark u = c at *
  refine ⟨(f.tr (fu.wk rfl)).tr (fm.wk rfl), (fm 2 3 rfl).trans u2, fun e => ?_, fun e => ?_, fun e => ?_, fun _ => ⟨x12, x13⟩, fun w => absurd w (by omega)⟩
  · rw [fm 3 e rfl, u3 e, b3 e]
    by_cases w : e = N + i
    · rw [if_pos w, if_pos (by omega), show e - N = i by omega]
    · rw [if_neg w]
      by_cases x : N ≤ e ∧ e < N + i
      · rw [if_pos x, if_pos (by omega)]
      · rw [if_neg x, if_neg (by omega)]
  · rw [fm 4 e rfl, u4 e, b4 e]
    by_cases w : e = N + i
    · rw [if_pos w, if_pos (by omega), show e - N = i by omega]
    · rw [if_neg w]
      by_cases x : N ≤ e ∧ e < N + i
      · rw [if_pos x, if_pos (by omega)]
      · rw [if_neg x, if_neg (by omega)]
  · rw [fm 5 e rfl, u5 e, b5 e]
    by_cases w : e = N + i
    · rw [if_pos w, if_pos (by omega), show e - N = i by omega]
    · rw [if_neg w]
      by_cases x : N ≤ e ∧ e < N + i
      · rw [if_pos x, if_pos (by omega)]
      · rw [if_neg x, if_neg (by omega)]
theorem PM.app {s0 s : SG} {v : NI} {N i : Nat} (h : PM s0 v N i s) : PM s0 v N (i + 1) (amE s (N + i) (v (3 * i)) (v (3 * i + 1)) (v (3 * i + 2))) := by
  obtain ⟨f, a, b3, b4, b5⟩ := h
  unfold amE
  have fu : Fr [(123, 123, some 11), (130, 132, none)] s (uset (uset (uset (uset s 130 (N + i) (v (3 * i))) 131 (N + i) (v (3 * i + 1))) 132 (N + i) (v (3 * i + 2))) 123 11 (Int32.ofNat (N + i + 1))) := Fr.uset rfl (Fr.uset rfl (Fr.uset rfl (Fr.uset rfl (Fr.rf _ _))))
  have u2 : uset (uset (uset (uset s 130 (N + i) (v (3 * i))) 131 (N + i) (v (3 * i + 1))) 132 (N + i) (v (3 * i + 2))) 123 11 (Int32.ofNat (N + i + 1)) 123 11 = Int32.ofNat (N + i + 1) := uset_eq _ _ _ _
  have u3 : ∀ e, uset (uset (uset (uset s 130 (N + i) (v (3 * i))) 131 (N + i) (v (3 * i + 1))) 132 (N + i) (v (3 * i + 2))) 123 11 (Int32.ofNat (N + i + 1)) 130 e = if e = N + i then v (3 * i) else s 130 e := fun e => by
    rw [uset_na (by decide), uset_na (by decide), uset_na (by decide)]
    by_cases w : e = N + i
    · rw [if_pos w, w]; exact uset_eq _ _ _ _
    · rw [if_neg w]; exact uset_nj w
  have u4 : ∀ e, uset (uset (uset (uset s 130 (N + i) (v (3 * i))) 131 (N + i) (v (3 * i + 1))) 132 (N + i) (v (3 * i + 2))) 123 11 (Int32.ofNat (N + i + 1)) 131 e = if e = N + i then v (3 * i + 1) else s 131 e := fun e => by
    rw [uset_na (by decide), uset_na (by decide)]
    by_cases w : e = N + i
    · rw [if_pos w, w]; exact uset_eq _ _ _ _
    · rw [if_neg w, uset_nj w]; exact uset_na (by decide)
  have u5 : ∀ e, uset (uset (uset (uset s 130 (N + i) (v (3 * i))) 131 (N + i) (v (3 * i + 1))) 132 (N + i) (v (3 * i + 2))) 123 11 (Int32.ofNat (N + i + 1)) 132 e = if e = N + i then v (3 * i + 2) else s 132 e := fun e => by
    rw [uset_na (by decide)]
    by_cases w : e = N + i
    · rw [if_pos w, w]; exact uset_eq _ _ _ _
    · rw [if_neg w, uset_nj w, uset_na (by decide)]; exact uset_na (by decide)
  generalize uset (uset (uset (uset s 130 (N + i) (v (3 * i))) 131 (N + i) (v (3 * i + 1))) 132 (N + i) (v (3 * i + 2))) 123 11 (Int32.ofNat (N + i + 1)) = u at *
  refine ⟨f.tr fu, u2, fun e => ?_, fun e => ?_, fun e => ?_⟩
  · rw [u3 e, b3 e]
    by_cases w : e = N + i
    · rw [if_pos w, if_pos (by omega), show e - N = i by omega]
    · rw [if_neg w]
      by_cases x : N ≤ e ∧ e < N + i
      · rw [if_pos x, if_pos (by omega)]
      · rw [if_neg x, if_neg (by omega)]
  · rw [u4 e, b4 e]
    by_cases w : e = N + i
    · rw [if_pos w, if_pos (by omega), show e - N = i by omega]
    · rw [if_neg w]
      by_cases x : N ≤ e ∧ e < N + i
      · rw [if_pos x, if_pos (by omega)]
      · rw [if_neg x, if_neg (by omega)]
  · rw [u5 e, b5 e]
    by_cases w : e = N + i
    · rw [if_pos w, if_pos (by omega), show e - N = i by omega]
    · rw [if_neg w]
      by_cases x : N ≤ e ∧ e < N + i
      · rw [if_pos x, if_pos (by omega)]
      · rw [if_neg x, if_neg (by omega)]
theorem ge3 {i S : Nat} (hi : i ≤ 20) (hS : S ≤ 60) : m_cmp .ge (Int32.ofNat (3 * i) + 2) (Int32.ofNat S) = decide (S ≤ 3 * i + 2) := by
  rw [show Int32.ofNat (3 * i) + 2 = Int32.ofNat (3 * i + 2) from ofn_add rfl rfl]
  by_cases w : S ≤ 3 * i + 2
  · rw [decide_eq_true w]
    exact m_ge_iff.mpr (by rw [ofn_int (by omega), ofn_int (by omega)]; omega)
  · rw [decide_eq_false w]
    cases q : m_cmp .ge (Int32.ofNat (3 * i + 2)) (Int32.ofNat S) with
    | false => rfl
    | true =>
      have := m_ge_iff.mp q
      rw [ofn_int (by omega), ofn_int (by omega)] at this
      omega
theorem rdC_sp {s0 : SG} {A S N : Nat} {v : NI} (h1 : 115 ≤ A) (h2 : A + 1 ≤ 122) (hv : ∀ k, k < 60 → s0 (A + 1) k = v k) (eS : s0 A 3 = Int32.ofNat S) (hS : S ≤ 60) : ∀ (n i : Nat) (s : SG), i + n = 20 → N + i ≤ 8 → PC s0 v N i s → (∀ k, k < i → goE v S N k) → ∃ T f, rdC A n i s = (Int32.ofNat T, f) ∧ PC s0 v N T f ∧ (∀ k, k < T → goE v S N k) ∧ ¬ goE v S N T := by
  intro n
  induction n with
  | zero =>
    intro i s hi hN hP hg
    refine ⟨i, s, rfl, hP, hg, fun w => ?_⟩
    have := w.1
    omega
  | succ n ih =>
    intro i s hi hN hP hg
    have fA : ∀ j, s A j = s0 A j := fun j => (hP.1.ag [(115, 122, none)] rfl) A j (inW_r 115 122 h1 (by omega) rfl)
    have fB : ∀ j, s (A + 1) j = s0 (A + 1) j := fun j => (hP.1.ag [(115, 122, none)] rfl) (A + 1) j (inW_r 115 122 (by omega) h2 rfl)
    rw [rdC_s, fA 3, eS, ge3 (by omega) hS]
    by_cases w : S ≤ 3 * i + 2
    · rw [decide_eq_true w]
      refine ⟨i, s, rfl, hP, hg, fun x => ?_⟩
      have := x.1
      omega
    · rw [decide_eq_false w]
      have j0 : (Int32.ofNat (3 * i)).toNatClampNeg = 3 * i := ofn_c (by omega)
      have j1 : (Int32.ofNat (3 * i) + 1).toNatClampNeg = 3 * i + 1 := by
        rw [show Int32.ofNat (3 * i) + 1 = Int32.ofNat (3 * i + 1) from ofn_add rfl rfl]; exact ofn_c (by omega)
      have j2 : (Int32.ofNat (3 * i) + 2).toNatClampNeg = 3 * i + 2 := by
        rw [show Int32.ofNat (3 * i) + 2 = Int32.ofNat (3 * i + 2) from ofn_add rfl rfl]; exact ofn_c (by omega)
      have eE : evR A i s = F_cevent s (v (3 * i)) (v (3 * i + 1)) (v (3 * i + 2)) := by
        unfold evR
        rw [j0, j1, j2, fB, fB, fB, hv _ (by omega), hv _ (by omega), hv _ (by omega)]
      rw [eE, cF]
      rcases evC1 hN hP.2.1 (v (3 * i)) (v (3 * i + 1)) (v (3 * i + 2)) with ⟨a1, a2, a3⟩ | ⟨a1, a2, a3⟩
      · rw [a3]
        have c : m_cmp .ge (Int32.ofNat (N + i + 1)) 0 = true := m_ge_iff.mpr (by
          rw [ofn_int (by omega)]
          have e0 : (0 : Int32).toInt = 0 := by decide
          omega)
        dsimp only
        rw [c, cT]
        refine ih (i + 1) _ (by omega) (by omega) hP.app (fun k hk => ?_)
        by_cases x : k = i
        · rw [x]; exact ⟨by omega, a1, a2⟩
        · exact hg k (by omega)
      · rw [a3, cF, a2]
        exact ⟨i, s, rfl, hP, hg, fun x => a1 ⟨x.2.1, x.2.2⟩⟩
theorem rdM_sp {s0 : SG} {q S N : Nat} {v : NI} (hq : q < 4) (s_ : Int32) (es : s_ = Int32.ofNat q) (hv : ∀ k, k < 60 → s0 151 (60 * q + k) = v k) (eS : s0 150 q = Int32.ofNat S) (hS : S ≤ 60) : ∀ (n i : Nat) (s : SG), i + n = 20 → N + i ≤ 8 → PM s0 v N i s → (∀ k, k < i → goE v S N k) → ∃ T f, rdM s_ n i s = (Int32.ofNat T, f) ∧ PM s0 v N T f ∧ (∀ k, k < T → goE v S N k) ∧ ¬ goE v S N T := by
  intro n
  induction n with
  | zero =>
    intro i s hi hN hP hg
    refine ⟨i, s, rfl, hP, hg, fun w => ?_⟩
    have := w.1
    omega
  | succ n ih =>
    intro i s hi hN hP hg
    have fA : ∀ j, s 150 j = s0 150 j := fun j => hP.1 150 j rfl
    have fB : ∀ j, s 151 j = s0 151 j := fun j => hP.1 151 j rfl
    have cq : (Int32.ofNat q).toNatClampNeg = q := ofn_c (by omega)
    have e3 : 3 * Int32.ofNat i = Int32.ofNat (3 * i) := ofn_mul rfl rfl
    rw [rdM_s, fA, es, cq, eS, e3, ge3 (by omega) hS]
    by_cases w : S ≤ 3 * i + 2
    · rw [decide_eq_true w]
      refine ⟨i, s, rfl, hP, hg, fun x => ?_⟩
      have := x.1
      omega
    · rw [decide_eq_false w]
      have k0 : (60 * Int32.ofNat q) + 3 * Int32.ofNat i = Int32.ofNat (60 * q + 3 * i) := ofn_add (ofn_mul rfl rfl) (ofn_mul rfl rfl)
      have j0 : ((60 * Int32.ofNat q) + 3 * Int32.ofNat i).toNatClampNeg = 60 * q + 3 * i := by rw [k0]; exact ofn_c (by omega)
      have j1 : (((60 * Int32.ofNat q) + 3 * Int32.ofNat i) + 1).toNatClampNeg = 60 * q + (3 * i + 1) := by
        rw [k0, show Int32.ofNat (60 * q + 3 * i) + 1 = Int32.ofNat (60 * q + 3 * i + 1) from ofn_add rfl rfl]; exact ofn_c (by omega)
      have j2 : (((60 * Int32.ofNat q) + 3 * Int32.ofNat i) + 2).toNatClampNeg = 60 * q + (3 * i + 2) := by
        rw [k0, show Int32.ofNat (60 * q + 3 * i) + 2 = Int32.ofNat (60 * q + 3 * i + 2) from ofn_add rfl rfl]; exact ofn_c (by omega)
      have eE : emR (Int32.ofNat q) i s = F_event s (v (3 * i)) (v (3 * i + 1)) (v (3 * i + 2)) := by
        unfold emR
        rw [j0, j1, j2, fB, fB, fB, hv _ (by omega), hv _ (by omega), hv _ (by omega)]
      rw [eE, cF]
      rcases evM1 hN hP.2.1 (v (3 * i)) (v (3 * i + 1)) (v (3 * i + 2)) with ⟨a1, a2, a3⟩ | ⟨a1, a2, a3⟩
      · rw [a3]
        have c : m_cmp .le (Int32.ofNat (N + i + 1)) 0 = false := by
          cases y : m_cmp .le (Int32.ofNat (N + i + 1)) 0 with
          | false => rfl
          | true =>
            have y := mle_iff.mp y
            rw [ofn_int (by omega)] at y
            have e0 : (0 : Int32).toInt = 0 := by decide
            omega
        dsimp only
        rw [c, cF, ← es]
        refine ih (i + 1) _ (by omega) (by omega) hP.app (fun k hk => ?_)
        by_cases x : k = i
        · rw [x]; exact ⟨by omega, a1, a2⟩
        · exact hg k (by omega)
      · rw [a3, cT, a2]
        exact ⟨i, s, rfl, hP, hg, fun x => a1 ⟨x.2.1, x.2.2⟩⟩
theorem q_read {s : SG} (h : KF s) (s_ : Int32) : QK (F_cread s s_) (fun y => F_read y s_) := by
  cases q1 : bl s_ 4 with
  | false =>
    refine same_q (v := -2) h ?_ ?_
    · unfold F_cread; rw [q1]; rfl
    · unfold F_read; rw [q1]; rfl
  | true =>
    obtain ⟨es, hq⟩ := bl_ofn q1
    have hq : s_.toNatClampNeg < 4 := hq
    obtain ⟨k1, k2, k3, k4, k5, k6⟩ := h.1.2.2.2.2.1 _ hq
    cases q3 : m_cmp .ne (s 148 s_.toNatClampNeg) 0 with
    | false =>
      refine find_q (v := 1) h ?_ ?_
      · unfold F_cread; rw [q1, eq_ne, k1, q3]; rfl
      · unfold F_read
        have f148 : (F_find s 1).2 148 s_.toNatClampNeg = s 148 s_.toNatClampNeg := rfl
        rw [q1, f148, q3]; rfl
    | true =>
      have eC : F_cread s s_ = rdC (115 + 2 * s_.toNatClampNeg) 20 0 s := by unfold F_cread; rw [q1, eq_ne, k1, q3]; rfl
      have eM : ∀ y : SG, y 148 s_.toNatClampNeg = s 148 s_.toNatClampNeg → F_read y s_ = rdM s_ 20 0 y := fun y hy => by unfold F_read; rw [q1, hy, q3]; rfl
      generalize s_.toNatClampNeg = q at *
      obtain ⟨S, hS, eS⟩ := lenO k4 k5
      obtain ⟨⟨hU, hC, hE, hSn, hH⟩, hX⟩ := h
      obtain ⟨E1, E2, E3, E4, E5, E6, E7⟩ := hE
      obtain ⟨N, hN, eN⟩ := lenO E2 E3
      have eN2 : s 123 11 = Int32.ofNat N := E1.symm.trans eN
      have cN : (Int32.ofNat N).toNatClampNeg = N := ofn_c (by omega)
      obtain ⟨T, c, r1, pc, g1, g2⟩ := rdC_sp (s0 := s) (A := 115 + 2 * q) (S := S) (N := N) (v := fun k => s 151 (60 * q + k)) (by omega) (by omega) (fun k hk => by rw [show 115 + 2 * q + 1 = 116 + 2 * q by omega]; exact k6 k hk) (k3.trans eS) hS 20 0 s rfl (by omega) ⟨Fr.rf _ _, eN, fun e => by rw [if_neg (by omega)], fun e => by rw [if_neg (by omega)], fun e => by rw [if_neg (by omega)], fun w => absurd rfl w, fun _ => rfl⟩ (fun k hk => absurd hk (by omega))
      have fc := pc.1
      obtain ⟨T2, f, r2, pm, d1, d2⟩ := rdM_sp (s0 := c) (S := S) (N := N) (v := fun k => s 151 (60 * q + k)) hq s_ es (fun k _ => fc 151 _ rfl) ((fc 150 q rfl).trans eS) hS 20 0 c rfl (by omega) ⟨Fr.rf _ _, (fc 123 11 rfl).trans eN2, fun e => by rw [if_neg (by omega)], fun e => by rw [if_neg (by omega)], fun e => by rw [if_neg (by omega)]⟩ (fun k hk => absurd hk (by omega))
      have eT : T2 = T := by
        rcases Nat.lt_trichotomy T T2 with w | w | w
        · exact absurd (d1 T w) g2
        · exact w.symm
        · exact absurd (g1 T2 w) d2
      subst eT
      unfold QK
      rw [eC, r1]
      dsimp only
      rw [eM c (fc 148 q rfl), r2]
      dsimp only
      refine ⟨?_, rfl⟩
      obtain ⟨-, p2, p3, p4, p5, p6, p7⟩ := pc
      obtain ⟨fm, m2, m3, m4, m5⟩ := pm
      have ft : Fr [(0, 0, some 12), (0, 0, some 13), (2, 2, some 3), (3, 5, none), (123, 123, some 11), (130, 132, none)] s f := (fc.wk rfl).tr (fm.wk rfl)
      have TN : N + T2 ≤ 8 := by
        cases T2 with
        | zero => exact hN
        | succ T =>
          have := (g1 T (by omega)).2.1
          omega
      have cT2 : (Int32.ofNat (N + T2)).toNatClampNeg = N + T2 := ofn_c (by omega)
      have y2 : f 2 3 = Int32.ofNat (N + T2) := (fm 2 3 rfl).trans p2
      refine ⟨⟨hU.ag (ft.ag DT rfl), hC.ag (ft.ag DC rfl), ⟨y2.trans m2.symm, ?_, ?_, fun e he => ⟨?_, ?_, ?_⟩, ?_, ?_, ?_⟩, hSn.ag (ft.ag DS rfl), hH.ag (ft.ag DH rfl)⟩, ?_⟩
      · rw [y2, ofn_int (by omega)]; omega
      · rw [y2, cT2]; omega
      · rw [fm 3 e rfl, p3 e, m3 e, (E4 e he).1, fc 130 e rfl]
      · rw [fm 4 e rfl, p4 e, m4 e, (E4 e he).2.1, fc 131 e rfl]
      · rw [fm 5 e rfl, p5 e, m5 e, (E4 e he).2.2, fc 132 e rfl]
      · intro e he
        rw [y2, cT2] at he
        rw [fm 3 e rfl, fm 4 e rfl, p3 e, p4 e]
        by_cases w : N ≤ e ∧ e < N + T2
        · rw [if_pos w, if_pos w]
          have g := (g1 (e - N) (by omega)).2.2
          unfold gdE at g
          dsimp only at g ⊢
          cases b1 : bl (s 151 (60 * q + 3 * (e - N))) 3 with
          | false => rw [b1] at g; cases g
          | true =>
            cases b2 : bl (s 151 (60 * q + (3 * (e - N) + 1))) 24 with
            | false => rw [b1, b2] at g; cases g
            | true =>
              obtain ⟨em, lm⟩ := bl_ofn b2
              exact ⟨bl_3.mp b1, _, lm, em⟩
        · rw [if_neg w, if_neg w]
          exact E5 e (by rw [eN, cN]; omega)
      · rw [ft 10 5 rfl, ft 123 9 rfl]; exact E6
      · rw [ft 10 6 rfl, ft 123 10 rfl]; exact E7
      · by_cases w : T2 = 0
        · have e := p7 w
          rw [e] at fm
          exact hX.ag (fm.ag DX rfl)
        · obtain ⟨x1, x2⟩ := p6 w
          exact KX.stale ((fm 0 12 rfl).trans x1) ((fm 0 13 rfl).trans x2)
end
section
/-! runs that keep KF, whatever they answer: by the number of steps -/
def UPB (n : Nat) (M : MM) (i : Nat) (L : ML) (st : List Value) (s : SG) (P : Option Value → SG → Prop) : Prop := ∀ m q, m < n → urun m M i L st s = some q → P q.1 q.2
theorem UP.of_b {M : MM} {i : Nat} {L : ML} {st : List Value} {s : SG} {P : Option Value → SG → Prop} (h : ∀ n, UPB n M i L st s P) : UP M i L st s P := fun n q hq => h (n + 1) n q (by omega) hq
section UPBS
variable {n : Nat} {M M1 : MM} {i y : Nat} {L : ML} {st : List Value} {s : SG} {P : Option Value → SG → Prop} {c : Jvm.ClassFile.Cond} {pc len : Nat} {off : Int} {ops : List Int}
theorem UPB.zero : UPB 0 M i L st s P := fun m q h _ => absurd h (by omega)
theorem UPB.wk (h : UPB (n + 1) M i L st s P) : UPB n M i L st s P := fun m q hm hq => h m q (by omega) hq
theorem UPB.one {i1 : Nat} {L1 : ML} {st1 : List Value} {s1 : SG} (hs : ustep M i L st s = some (.inl (i1, L1, st1, s1))) (k : UPB n M i1 L1 st1 s1 P) : UPB (n + 1) M i L st s P := by
  intro m q hm hq
  cases m with
  | zero => cases hq
  | succ m =>
    rw [urun_s] at hq
    unfold ubody at hq
    rw [hs] at hq
    exact k m q (by omega) hq
theorem UPB.stp : ∀ (k : Nat) {i i1 : Nat} {L L1 : ML} {st st1 : List Value} {s s1 : SG}, ustp k M (i, L, st, s) = some (i1, L1, st1, s1) → UPB n M i1 L1 st1 s1 P → UPB n M i L st s P
  | 0, i, i1, L, L1, st, st1, s, s1, hs, k => by cases hs; exact k
  | m + 1, i, i1, L, L1, st, st1, s, s1, hs, k => by
    have hs : (match ustep M i L st s with | some (.inl y) => ustp m M y | _ => none) = some (i1, L1, st1, s1) := hs
    split at hs
    · rename_i y he
      obtain ⟨i2, L2, st2, s2⟩ := y
      exact (UPB.one he (UPB.stp m hs k)).wk
    · cases hs
/-- the first step of a loop's head -/
theorem UPB.hd (k : Nat) {i1 : Nat} {L1 : ML} {st1 : List Value} {s1 : SG} (hs : ustp (k + 1) M (i, L, st, s) = some (i1, L1, st1, s1)) (h : UPB n M i1 L1 st1 s1 P) : UPB (n + 1) M i L st s P := by
  have hs : (match ustep M i L st s with | some (.inl y) => ustp k M y | _ => none) = some (i1, L1, st1, s1) := hs
  split at hs
  · rename_i y he
    obtain ⟨i2, L2, st2, s2⟩ := y
    exact UPB.one he (UPB.stp k hs h)
  · cases hs
theorem UPB.ret {r : Option Value} (hs : ustep M i L st s = some (.inr (.inr r))) (hp : P r s) : UPB n M i L st s P := fun m q _ hq => (UP.ret hs hp) m q hq
theorem UPB.call {as rest : List Value} {P1 : Option Value → SG → Prop} (hs : ustep M i L st s = some (.inr (.inl (y, as, rest)))) (hy : m_tab[y]? = some M1) (kc : UP M1 0 (m_ent (mx M1) as) [] s P1) (k : ∀ r s1, P1 r s1 → UPB n M (i + 1) L (r.toList ++ rest) s1 P) : UPB n M i L st s P := by
  intro m q hm hq
  cases m with
  | zero => cases hq
  | succ m =>
    rw [urun_s] at hq
    unfold ubody at hq
    rw [hs] at hq
    dsimp only at hq
    rw [hy] at hq
    dsimp only at hq
    split at hq
    · cases hq
    · rename_i r s1 hc
      exact k r s1 (kc m _ hc) m q (by omega) hq
theorem UPB.ic {x y : Int32} (hrow : (mc M)[i]? = some (pc, .if_icmp c off, len, ops)) (k1 : UPB n M (m_n ops 0) L st s P) (k2 : UPB n M (i + 1) L st s P) : UPB n M i L (.int y :: .int x :: st) s P := by
  cases hc : m_cmp c x y with
  | true =>
    refine UPB.wk (UPB.one ?_ k1)
    unfold ustep
    rw [hrow]
    show (bif m_cmp c x y then some (Sum.inl (m_n ops 0, [], st, [])) else o_nx i [] st []).map (uo L s) = _
    rw [hc]
    rfl
  | false =>
    refine UPB.wk (UPB.one ?_ k2)
    unfold ustep
    rw [hrow]
    show (bif m_cmp c x y then some (Sum.inl (m_n ops 0, [], st, [])) else o_nx i [] st []).map (uo L s) = _
    rw [hc]
    rfl
theorem UPB.ifc {x : Int32} (hrow : (mc M)[i]? = some (pc, .ifCond c off, len, ops)) (k1 : UPB n M (m_n ops 0) L st s P) (k2 : UPB n M (i + 1) L st s P) : UPB n M i L (.int x :: st) s P := by
  cases hc : m_cmp c x 0 with
  | true =>
    refine UPB.wk (UPB.one ?_ k1)
    unfold ustep
    rw [hrow]
    show (bif m_cmp c x 0 then some (Sum.inl (m_n ops 0, [], st, [])) else o_nx i [] st []).map (uo L s) = _
    rw [hc]
    rfl
  | false =>
    refine UPB.wk (UPB.one ?_ k2)
    unfold ustep
    rw [hrow]
    show (bif m_cmp c x 0 then some (Sum.inl (m_n ops 0, [], st, [])) else o_nx i [] st []).map (uo L s) = _
    rw [hc]
    rfl
end UPBS
def KI (r : Option Value) (s1 : SG) : Prop := (∃ x, r = some (.int x)) ∧ KF s1
def KL (r : Option Value) (s1 : SG) : Prop := (∃ x, r = some (.long x)) ∧ KF s1
section UPBK
variable {n : Nat} {M M1 : MM} {i y : Nat} {L : ML} {st : List Value} {s : SG} {P : Option Value → SG → Prop}
theorem UPB.cI {as rest : List Value} (hs : ustep M i L st s = some (.inr (.inl (y, as, rest)))) (hy : m_tab[y]? = some M1) (kc : UP M1 0 (m_ent (mx M1) as) [] s KI) (k : ∀ x s1, KF s1 → UPB n M (i + 1) L (.int x :: rest) s1 P) : UPB n M i L st s P := UPB.call hs hy kc (fun r s1 q => by obtain ⟨⟨x, rfl⟩, q⟩ := q; exact k x s1 q)
theorem UPB.cL {as rest : List Value} (hs : ustep M i L st s = some (.inr (.inl (y, as, rest)))) (hy : m_tab[y]? = some M1) (kc : UP M1 0 (m_ent (mx M1) as) [] s KL) (k : ∀ x s1, KF s1 → UPB n M (i + 1) L (.long x :: rest) s1 P) : UPB n M i L st s P := UPB.call hs hy kc (fun r s1 q => by obtain ⟨⟨x, rfl⟩, q⟩ := q; exact k x s1 q)
end UPBK
theorem KI_b {M : MM} {i : Nat} {L : ML} {st : List Value} {s : SG} {T : Int32 × SG} (k : UP M i L st s (Qb T)) (h : KF T.2) : UP M i L st s KI := k.mono (fun r s1 q => ⟨⟨_, q.1⟩, by rw [q.2]; exact h⟩)
theorem KI_i {M : MM} {i : Nat} {L : ML} {st : List Value} {s : SG} {T : Int32} (k : UP M i L st s (Qi s T)) (h : KF s) : UP M i L st s KI := k.mono (fun r s1 q => ⟨⟨_, q.1⟩, by rw [q.2]; exact h⟩)
theorem kb {x y : Int32 × SG} {b : Bool} (h1 : KF x.2) (h2 : KF y.2) : KF (bif b then x else y).2 := by
  cases b
  · exact h2
  · exact h1
/-! the class's own calls keep KF -/
theorem kf_at {s : SG} (h : KF s) (a b : Int32) : KF (F_cat s a b).2 := by
  have t := (tt h).1
  dsimp only [F_cat]
  exact kb (kb t (kb t (kb t (kb t (kb t t))))) h
theorem kf_pulls {s : SG} (h : KF s) (a b : Int32) : KF (F_cpulls s a b).2 := by
  have t := (tt h).1
  dsimp only [F_cpulls]
  exact kb h (kb t h)
theorem kf_done {s : SG} (h : KF s) (a b : Int32) : KF (F_cdone s a b).2 := by
  have t := (tt h).1
  dsimp only [F_cdone]
  exact kb h (kb t h)
theorem kf_there {s : SG} (h : KF s) : KF (F_cthere s).2 := (tt h).1
theorem kf_grounded {s : SG} (h : KF s) (a : Int32) : KF (F_cgrounded s a).2 := by
  have t := (tt h).1
  dsimp only [F_cgrounded]
  exact kb t h
theorem kf_stray {s : SG} (h : KF s) (a : Int32) : KF (F_cstray s a).2 := by
  have t := (tt h).1
  dsimp only [F_cstray]
  exact kb t h
theorem kf_best {s : SG} (h : KF s) : KF (F_cbest s).2 := (tt h).1
theorem kf_idle {s : SG} (h : KF s) : KF (F_cidle s).2 := (tt h).1
theorem kf_swap {s : SG} (h : KF s) (a : Int32) : KF (F_cswap s a).2 := h.ag ((fr_cswapN s a).ag DF rfl)
theorem kf_steer {s : SG} (h : KF s) (a b : Int32) : KF (F_csteer s a b).2 := h.ag ((fr_csteerN s a b).ag DF rfl)
theorem kf_stroke {s : SG} (h : KF s) (a b : Int32) : KF (F_cstroke s a b).2 := h.ag ((fr_cstrokeN s a b).ag DF rfl)
theorem kf_years {s : SG} (h : KF s) (a b c : Int32) : KF (F_cyears s a b c).2 := h.ag ((fr_cyearsN s a b c).ag DF rfl)
theorem kf_never {s : SG} (h : KF s) : KF (F_cnever s).2 := h.ag ((fr_cneverN s).ag DF rfl)
theorem kf_was {s : SG} (h : KF s) (a b : Int32) : KF (F_cwas s a b).2 := h.ag ((fr_cwasN s a b).ag DF rfl)
theorem kf_ask {s : SG} (h : KF s) (a : Int32) : KF (F_cask s a).2 := h.ag ((fr_caskN s a).ag DF rfl)
/-! the groundings that are kept at hand -/
theorem inCc (s : SG) (m : Int32) : inC_c s m = inC_a s m := rfl
theorem fa_b {z : SG} {J : TI} (h : OuC_c J 24 z) : F_firstAground_b z = gfi J 24 := fstG (f := z 63) (B := B_firstAground_b_2 z) (fun t ht => (h t ht).2.2.2.2.1) (fun _ _ => rfl) 24 0 rfl rfl
/-- the first minute aground under a mask: what it answers, what stays -/
theorem faw {s : SG} (h : KF s) (mask : Int32) : KF (F_firstAgroundWith s mask).2 ∧ Ag DG s (F_firstAgroundWith s mask).2 ∧ (bl mask 256 = true → (F_firstAgroundWith s mask).1 = gfi (inC_a s mask) 24) := by
  have key : ∃ v : SG, (bif m_cmp .eq (s 0 13) 0 then s else (uset (fil s 96 256 (-9)) 0 13 0)) = v ∧ KF v ∧ Ag DG s v ∧ m_cmp .eq (v 0 13) 0 = true := by
    cases q : m_cmp .eq (s 0 13) 0 with
    | true => exact ⟨s, rfl, h, Ag.rf _ _, q⟩
    | false =>
      refine ⟨uset (fil s 96 256 (-9)) 0 13 0, rfl, ?_, ?_, rfl⟩
      · have f : Fr [(96, 96, none), (0, 0, some 13)] s (uset (fil s 96 256 (-9)) 0 13 0) := Fr.uset rfl (Fr.fil rfl (Fr.rf _ _))
        refine ⟨h.1.ag (f.ag DG rfl), fun w => ?_, fun _ m hm => Or.inl ?_⟩
        · rw [f 0 12 rfl] at w
          exact (h.2.1 w).ag (f.ag DTC rfl)
        · rw [uset_na (by decide)]
          exact fil_eq hm
      · have f : Fr [(96, 96, none), (0, 0, some 13)] s (uset (fil s 96 256 (-9)) 0 13 0) := Fr.uset rfl (Fr.fil rfl (Fr.rf _ _))
        exact f.ag DG rfl
  obtain ⟨v, ev, kv, av, sv⟩ := key
  have eF : F_firstAgroundWith s mask = bif m_cmp .ne (F_isBelow (bif m_cmp .eq (s 0 13) 0 then s else (uset (fil s 96 256 (-9)) 0 13 0)) mask 256) 0 then ((bif m_cmp .ne ((bif m_cmp .eq (s 0 13) 0 then s else (uset (fil s 96 256 (-9)) 0 13 0)) 96 mask.toNatClampNeg) (-9) then (bif m_cmp .eq (s 0 13) 0 then s else (uset (fil s 96 256 (-9)) 0 13 0)) else (uset (F_row_c (bif m_cmp .eq (s 0 13) 0 then s else (uset (fil s 96 256 (-9)) 0 13 0)) mask) 96 mask.toNatClampNeg (F_firstAground_b (F_row_c (bif m_cmp .eq (s 0 13) 0 then s else (uset (fil s 96 256 (-9)) 0 13 0)) mask)))) 96 mask.toNatClampNeg, (bif m_cmp .ne ((bif m_cmp .eq (s 0 13) 0 then s else (uset (fil s 96 256 (-9)) 0 13 0)) 96 mask.toNatClampNeg) (-9) then (bif m_cmp .eq (s 0 13) 0 then s else (uset (fil s 96 256 (-9)) 0 13 0)) else (uset (F_row_c (bif m_cmp .eq (s 0 13) 0 then s else (uset (fil s 96 256 (-9)) 0 13 0)) mask) 96 mask.toNatClampNeg (F_firstAground_b (F_row_c (bif m_cmp .eq (s 0 13) 0 then s else (uset (fil s 96 256 (-9)) 0 13 0)) mask))))) else (((-1), (bif m_cmp .eq (s 0 13) 0 then s else (uset (fil s 96 256 (-9)) 0 13 0)))) := rfl
  rw [ev, bl_n] at eF
  have eJ : inC_a v mask = inC_a s mask := inC_ag (av.sub rfl) mask
  cases q : bl mask 256 with
  | false =>
    rw [q, kF] at eF
    rw [eF]
    exact ⟨kv, av, fun w => by cases w⟩
  | true =>
    rw [q, kT] at eF
    rw [eF]
    obtain ⟨em, lm⟩ := bl_ofn q
    have lm : mask.toNatClampNeg < 256 := lm
    have gv := kv.2.2 sv
    cases q2 : m_cmp .ne (v 96 mask.toNatClampNeg) (-9) with
    | true =>
      rw [kT]
      refine ⟨kv, av, fun _ => ?_⟩
      dsimp only
      rcases gv _ lm with e | e
      · rw [e] at q2; cases q2
      · rw [e, ← em, eJ]
    | false =>
      rw [kF]
      dsimp only
      obtain ⟨m, p, R⟩ := rowC_c (s := v) (mask := mask) (row8 kv.1.1.1 kv.1.2.1.1) kv.1.2.2.1.2.2.2.2.1
      generalize F_row_c v mask = z at *
      obtain ⟨f, -, -, -, -, -, r4⟩ := R
      have f : Fr W_row_c v z := f
      have r4 : OuC_c (inC_c v mask) 24 z := r4
      have e1 : F_firstAground_b z = gfi (inC_a s mask) 24 := by
        rw [fa_b r4, inCc, eJ]
      rw [e1]
      have fz : Fr [(96, 96, none)] z (uset z 96 mask.toNatClampNeg (gfi (inC_a s mask) 24)) := Fr.uset rfl (Fr.rf _ _)
      have ft : Fr [(59, 63, none), (65, 88, none), (89, 95, none), (58, 58, some 8), (96, 96, none)] v (uset z 96 mask.toNatClampNeg (gfi (inC_a s mask) 24)) := (f.wk rfl).tr (fz.wk rfl)
      refine ⟨⟨kv.1.ag (ft.ag DG rfl), fun w => ?_, fun _ m hm => ?_⟩, av.tr (ft.ag DG rfl), fun _ => uset_eq _ _ _ _⟩
      · rw [ft 0 12 rfl] at w
        exact (kv.2.1 w).ag (ft.ag DTC rfl)
      · rw [inC_ag (ft.ag DJ rfl)]
        by_cases w : m = mask.toNatClampNeg
        · right
          rw [w, ← em, eJ]
          exact uset_eq _ _ _ _
        · rw [uset_nj w, f 96 m rfl]
          exact gv m hm
theorem kf_iab {s : SG} (h : KF s) (a b : Int32) : KF (F_isAgroundBy s a b).2 := (faw h b).1
end
section
/-! the class's calls keep KF: told of their runs (printed by wip/u/mk_inv.py) -/
theorem KI_isBelow {s : SG} (h : KF s) (v : Int32) (n : Int32) : UP m_X6_isBelow 0 (m_ent 2 [.int v, .int n]) [] s KI := KI_i (ux_isBelow s v n) h
theorem KI_hasBit {s : SG} (h : KF s) (b : Int32) (k : Int32) : UP m_X6_hasBit 0 (m_ent 2 [.int b, .int k]) [] s KI := KI_i (ux_hasBit s b k) h
theorem KI_ithBit {s : SG} (h : KF s) (b : Int32) (i : Int32) : UP m_X6_ithBit 0 (m_ent 4 [.int b, .int i]) [] s KI := KI_i (ux_ithBit s b i) h
theorem KI_rower {s : SG} (h : KF s) (a : Int32) (b : Int32) : UP m_X6_rower 0 (m_ent 3 [.ref 0, .int a, .int b]) [] s KI := KI_i (ux_crower s a b) h
theorem KI_call {s : SG} (h : KF s) (a : Int32) (b : Int32) : UP m_X6_call 0 (m_ent 3 [.ref 0, .int a, .int b]) [] s KI := KI_i (ux_ccall s a b) h
theorem KI_count {s : SG} (h : KF s) (a : Int32) : UP m_X6_count 0 (m_ent 2 [.ref 0, .int a]) [] s KI := KI_i (ux_ccount s a) h
theorem KI_fault {s : SG} (h : KF s) (a : Int32) : UP m_X6_fault 0 (m_ent 2 [.ref 0, .int a]) [] s KI := KI_i (ux_cfault s a) h
theorem KI_at {s : SG} (h : KF s) (a : Int32) (b : Int32) : UP m_X6_at 0 (m_ent 4 [.ref 0, .int a, .int b]) [] s KI := KI_b (ux_cat s a b) (kf_at h a b)
theorem KI_pulls {s : SG} (h : KF s) (a : Int32) (b : Int32) : UP m_X6_pulls 0 (m_ent 3 [.ref 0, .int a, .int b]) [] s KI := KI_b (ux_cpulls s a b) (kf_pulls h a b)
theorem KI_done {s : SG} (h : KF s) (a : Int32) (b : Int32) : UP m_X6_done 0 (m_ent 4 [.ref 0, .int a, .int b]) [] s KI := KI_b (ux_cdone s a b) (kf_done h a b)
theorem KI_there {s : SG} (h : KF s)  : UP m_X6_there 0 (m_ent 1 [.ref 0]) [] s KI := KI_b (ux_cthere s ) (kf_there h )
theorem KI_grounded {s : SG} (h : KF s) (a : Int32) : UP m_X6_grounded 0 (m_ent 2 [.ref 0, .int a]) [] s KI := KI_b (ux_cgrounded s a) (kf_grounded h a)
theorem KI_stray {s : SG} (h : KF s) (a : Int32) : UP m_X6_stray 0 (m_ent 2 [.ref 0, .int a]) [] s KI := KI_b (ux_cstray s a) (kf_stray h a)
theorem KI_best {s : SG} (h : KF s)  : UP m_X6_best 0 (m_ent 4 [.ref 0]) [] s KI := KI_b (ux_cbest s ) (kf_best h )
theorem KI_idle {s : SG} (h : KF s)  : UP m_X6_idle 0 (m_ent 4 [.ref 0]) [] s KI := KI_b (ux_cidle s ) (kf_idle h )
theorem KI_swap {s : SG} (h : KF s) (a : Int32) : UP m_X6_swap 0 (m_ent 8 [.ref 0, .int a]) [] s KI := KI_b (ux_cswap s a) (kf_swap h a)
theorem KI_steer {s : SG} (h : KF s) (a : Int32) (b : Int32) : UP m_X6_steer 0 (m_ent 7 [.ref 0, .int a, .int b]) [] s KI := KI_b (ux_csteer s a b) (kf_steer h a b)
theorem KI_stroke {s : SG} (h : KF s) (a : Int32) (b : Int32) : UP m_X6_stroke 0 (m_ent 7 [.ref 0, .int a, .int b]) [] s KI := KI_b (ux_cstroke s a b) (kf_stroke h a b)
theorem KI_years {s : SG} (h : KF s) (a : Int32) (b : Int32) (c : Int32) : UP m_X6_years 0 (m_ent 6 [.ref 0, .int a, .int b, .int c]) [] s KI := KI_b (ux_cyears s a b c) (kf_years h a b c)
theorem KI_never {s : SG} (h : KF s)  : UP m_X6_never 0 (m_ent 3 [.ref 0]) [] s KI := KI_b (ux_cnever s ) (kf_never h )
theorem KI_was {s : SG} (h : KF s) (a : Int32) (b : Int32) : UP m_X6_was 0 (m_ent 3 [.ref 0, .int a, .int b]) [] s KI := KI_b (ux_cwas s a b) (kf_was h a b)
theorem KI_ask {s : SG} (h : KF s) (a : Int32) : UP m_X6_ask 0 (m_ent 7 [.ref 0, .int a]) [] s KI := KI_b (ux_cask s a) (kf_ask h a)
theorem kf_faw {s : SG} (h : KF s) (a : Int32) : KF (F_firstAgroundWith s a).2 := (faw h a).1
theorem KI_faw {s : SG} (h : KF s) (a : Int32) : UP m_X6_firstAgroundWith 0 (m_ent 2 [.ref 0, .int a]) [] s KI := KI_b (ux_firstAgroundWith s a) (kf_faw h a)
theorem KI_iab {s : SG} (h : KF s) (a : Int32) (b : Int32) : UP m_X6_isAgroundBy 0 (m_ent 4 [.ref 0, .int a, .int b]) [] s KI := KI_b (ux_isAgroundBy s a b) (kf_iab h a b)
theorem KI_bitCount {s : SG} (h : KF s) (b : Int32) : UP m_J6_bitCount_0f7a4 0 (m_ent 1 [.int b]) [] s KI := by
  refine UP.of_b (fun n => ?_)
  refine UPB.stp 41 (i1 := 41) (L1 := [some (.int (((((((b - (((Int32.toUInt32 b >>> (Int32.toUInt32 1 &&& Int32.toUInt32 31)).toInt32) &&& (1431655765 : Int32))) &&& (858993459 : Int32)) + (((Int32.toUInt32 (b - (((Int32.toUInt32 b >>> (Int32.toUInt32 1 &&& Int32.toUInt32 31)).toInt32) &&& (1431655765 : Int32))) >>> (Int32.toUInt32 2 &&& Int32.toUInt32 31)).toInt32) &&& (858993459 : Int32))) + ((Int32.toUInt32 (((b - (((Int32.toUInt32 b >>> (Int32.toUInt32 1 &&& Int32.toUInt32 31)).toInt32) &&& (1431655765 : Int32))) &&& (858993459 : Int32)) + (((Int32.toUInt32 (b - (((Int32.toUInt32 b >>> (Int32.toUInt32 1 &&& Int32.toUInt32 31)).toInt32) &&& (1431655765 : Int32))) >>> (Int32.toUInt32 2 &&& Int32.toUInt32 31)).toInt32) &&& (858993459 : Int32))) >>> (Int32.toUInt32 4 &&& Int32.toUInt32 31)).toInt32)) &&& (252645135 : Int32)) + ((Int32.toUInt32 (((((b - (((Int32.toUInt32 b >>> (Int32.toUInt32 1 &&& Int32.toUInt32 31)).toInt32) &&& (1431655765 : Int32))) &&& (858993459 : Int32)) + (((Int32.toUInt32 (b - (((Int32.toUInt32 b >>> (Int32.toUInt32 1 &&& Int32.toUInt32 31)).toInt32) &&& (1431655765 : Int32))) >>> (Int32.toUInt32 2 &&& Int32.toUInt32 31)).toInt32) &&& (858993459 : Int32))) + ((Int32.toUInt32 (((b - (((Int32.toUInt32 b >>> (Int32.toUInt32 1 &&& Int32.toUInt32 31)).toInt32) &&& (1431655765 : Int32))) &&& (858993459 : Int32)) + (((Int32.toUInt32 (b - (((Int32.toUInt32 b >>> (Int32.toUInt32 1 &&& Int32.toUInt32 31)).toInt32) &&& (1431655765 : Int32))) >>> (Int32.toUInt32 2 &&& Int32.toUInt32 31)).toInt32) &&& (858993459 : Int32))) >>> (Int32.toUInt32 4 &&& Int32.toUInt32 31)).toInt32)) &&& (252645135 : Int32)) >>> (Int32.toUInt32 8 &&& Int32.toUInt32 31)).toInt32)) + ((Int32.toUInt32 ((((((b - (((Int32.toUInt32 b >>> (Int32.toUInt32 1 &&& Int32.toUInt32 31)).toInt32) &&& (1431655765 : Int32))) &&& (858993459 : Int32)) + (((Int32.toUInt32 (b - (((Int32.toUInt32 b >>> (Int32.toUInt32 1 &&& Int32.toUInt32 31)).toInt32) &&& (1431655765 : Int32))) >>> (Int32.toUInt32 2 &&& Int32.toUInt32 31)).toInt32) &&& (858993459 : Int32))) + ((Int32.toUInt32 (((b - (((Int32.toUInt32 b >>> (Int32.toUInt32 1 &&& Int32.toUInt32 31)).toInt32) &&& (1431655765 : Int32))) &&& (858993459 : Int32)) + (((Int32.toUInt32 (b - (((Int32.toUInt32 b >>> (Int32.toUInt32 1 &&& Int32.toUInt32 31)).toInt32) &&& (1431655765 : Int32))) >>> (Int32.toUInt32 2 &&& Int32.toUInt32 31)).toInt32) &&& (858993459 : Int32))) >>> (Int32.toUInt32 4 &&& Int32.toUInt32 31)).toInt32)) &&& (252645135 : Int32)) + ((Int32.toUInt32 (((((b - (((Int32.toUInt32 b >>> (Int32.toUInt32 1 &&& Int32.toUInt32 31)).toInt32) &&& (1431655765 : Int32))) &&& (858993459 : Int32)) + (((Int32.toUInt32 (b - (((Int32.toUInt32 b >>> (Int32.toUInt32 1 &&& Int32.toUInt32 31)).toInt32) &&& (1431655765 : Int32))) >>> (Int32.toUInt32 2 &&& Int32.toUInt32 31)).toInt32) &&& (858993459 : Int32))) + ((Int32.toUInt32 (((b - (((Int32.toUInt32 b >>> (Int32.toUInt32 1 &&& Int32.toUInt32 31)).toInt32) &&& (1431655765 : Int32))) &&& (858993459 : Int32)) + (((Int32.toUInt32 (b - (((Int32.toUInt32 b >>> (Int32.toUInt32 1 &&& Int32.toUInt32 31)).toInt32) &&& (1431655765 : Int32))) >>> (Int32.toUInt32 2 &&& Int32.toUInt32 31)).toInt32) &&& (858993459 : Int32))) >>> (Int32.toUInt32 4 &&& Int32.toUInt32 31)).toInt32)) &&& (252645135 : Int32)) >>> (Int32.toUInt32 8 &&& Int32.toUInt32 31)).toInt32)) >>> (Int32.toUInt32 16 &&& Int32.toUInt32 31)).toInt32)))]) (st1 := [.int ((((((((b - (((Int32.toUInt32 b >>> (Int32.toUInt32 1 &&& Int32.toUInt32 31)).toInt32) &&& (1431655765 : Int32))) &&& (858993459 : Int32)) + (((Int32.toUInt32 (b - (((Int32.toUInt32 b >>> (Int32.toUInt32 1 &&& Int32.toUInt32 31)).toInt32) &&& (1431655765 : Int32))) >>> (Int32.toUInt32 2 &&& Int32.toUInt32 31)).toInt32) &&& (858993459 : Int32))) + ((Int32.toUInt32 (((b - (((Int32.toUInt32 b >>> (Int32.toUInt32 1 &&& Int32.toUInt32 31)).toInt32) &&& (1431655765 : Int32))) &&& (858993459 : Int32)) + (((Int32.toUInt32 (b - (((Int32.toUInt32 b >>> (Int32.toUInt32 1 &&& Int32.toUInt32 31)).toInt32) &&& (1431655765 : Int32))) >>> (Int32.toUInt32 2 &&& Int32.toUInt32 31)).toInt32) &&& (858993459 : Int32))) >>> (Int32.toUInt32 4 &&& Int32.toUInt32 31)).toInt32)) &&& (252645135 : Int32)) + ((Int32.toUInt32 (((((b - (((Int32.toUInt32 b >>> (Int32.toUInt32 1 &&& Int32.toUInt32 31)).toInt32) &&& (1431655765 : Int32))) &&& (858993459 : Int32)) + (((Int32.toUInt32 (b - (((Int32.toUInt32 b >>> (Int32.toUInt32 1 &&& Int32.toUInt32 31)).toInt32) &&& (1431655765 : Int32))) >>> (Int32.toUInt32 2 &&& Int32.toUInt32 31)).toInt32) &&& (858993459 : Int32))) + ((Int32.toUInt32 (((b - (((Int32.toUInt32 b >>> (Int32.toUInt32 1 &&& Int32.toUInt32 31)).toInt32) &&& (1431655765 : Int32))) &&& (858993459 : Int32)) + (((Int32.toUInt32 (b - (((Int32.toUInt32 b >>> (Int32.toUInt32 1 &&& Int32.toUInt32 31)).toInt32) &&& (1431655765 : Int32))) >>> (Int32.toUInt32 2 &&& Int32.toUInt32 31)).toInt32) &&& (858993459 : Int32))) >>> (Int32.toUInt32 4 &&& Int32.toUInt32 31)).toInt32)) &&& (252645135 : Int32)) >>> (Int32.toUInt32 8 &&& Int32.toUInt32 31)).toInt32)) + ((Int32.toUInt32 ((((((b - (((Int32.toUInt32 b >>> (Int32.toUInt32 1 &&& Int32.toUInt32 31)).toInt32) &&& (1431655765 : Int32))) &&& (858993459 : Int32)) + (((Int32.toUInt32 (b - (((Int32.toUInt32 b >>> (Int32.toUInt32 1 &&& Int32.toUInt32 31)).toInt32) &&& (1431655765 : Int32))) >>> (Int32.toUInt32 2 &&& Int32.toUInt32 31)).toInt32) &&& (858993459 : Int32))) + ((Int32.toUInt32 (((b - (((Int32.toUInt32 b >>> (Int32.toUInt32 1 &&& Int32.toUInt32 31)).toInt32) &&& (1431655765 : Int32))) &&& (858993459 : Int32)) + (((Int32.toUInt32 (b - (((Int32.toUInt32 b >>> (Int32.toUInt32 1 &&& Int32.toUInt32 31)).toInt32) &&& (1431655765 : Int32))) >>> (Int32.toUInt32 2 &&& Int32.toUInt32 31)).toInt32) &&& (858993459 : Int32))) >>> (Int32.toUInt32 4 &&& Int32.toUInt32 31)).toInt32)) &&& (252645135 : Int32)) + ((Int32.toUInt32 (((((b - (((Int32.toUInt32 b >>> (Int32.toUInt32 1 &&& Int32.toUInt32 31)).toInt32) &&& (1431655765 : Int32))) &&& (858993459 : Int32)) + (((Int32.toUInt32 (b - (((Int32.toUInt32 b >>> (Int32.toUInt32 1 &&& Int32.toUInt32 31)).toInt32) &&& (1431655765 : Int32))) >>> (Int32.toUInt32 2 &&& Int32.toUInt32 31)).toInt32) &&& (858993459 : Int32))) + ((Int32.toUInt32 (((b - (((Int32.toUInt32 b >>> (Int32.toUInt32 1 &&& Int32.toUInt32 31)).toInt32) &&& (1431655765 : Int32))) &&& (858993459 : Int32)) + (((Int32.toUInt32 (b - (((Int32.toUInt32 b >>> (Int32.toUInt32 1 &&& Int32.toUInt32 31)).toInt32) &&& (1431655765 : Int32))) >>> (Int32.toUInt32 2 &&& Int32.toUInt32 31)).toInt32) &&& (858993459 : Int32))) >>> (Int32.toUInt32 4 &&& Int32.toUInt32 31)).toInt32)) &&& (252645135 : Int32)) >>> (Int32.toUInt32 8 &&& Int32.toUInt32 31)).toInt32)) >>> (Int32.toUInt32 16 &&& Int32.toUInt32 31)).toInt32)) &&& (63 : Int32))]) (s1 := s) rfl ?_
  exact UPB.ret (r := some (.int ((((((((b - (((Int32.toUInt32 b >>> (Int32.toUInt32 1 &&& Int32.toUInt32 31)).toInt32) &&& (1431655765 : Int32))) &&& (858993459 : Int32)) + (((Int32.toUInt32 (b - (((Int32.toUInt32 b >>> (Int32.toUInt32 1 &&& Int32.toUInt32 31)).toInt32) &&& (1431655765 : Int32))) >>> (Int32.toUInt32 2 &&& Int32.toUInt32 31)).toInt32) &&& (858993459 : Int32))) + ((Int32.toUInt32 (((b - (((Int32.toUInt32 b >>> (Int32.toUInt32 1 &&& Int32.toUInt32 31)).toInt32) &&& (1431655765 : Int32))) &&& (858993459 : Int32)) + (((Int32.toUInt32 (b - (((Int32.toUInt32 b >>> (Int32.toUInt32 1 &&& Int32.toUInt32 31)).toInt32) &&& (1431655765 : Int32))) >>> (Int32.toUInt32 2 &&& Int32.toUInt32 31)).toInt32) &&& (858993459 : Int32))) >>> (Int32.toUInt32 4 &&& Int32.toUInt32 31)).toInt32)) &&& (252645135 : Int32)) + ((Int32.toUInt32 (((((b - (((Int32.toUInt32 b >>> (Int32.toUInt32 1 &&& Int32.toUInt32 31)).toInt32) &&& (1431655765 : Int32))) &&& (858993459 : Int32)) + (((Int32.toUInt32 (b - (((Int32.toUInt32 b >>> (Int32.toUInt32 1 &&& Int32.toUInt32 31)).toInt32) &&& (1431655765 : Int32))) >>> (Int32.toUInt32 2 &&& Int32.toUInt32 31)).toInt32) &&& (858993459 : Int32))) + ((Int32.toUInt32 (((b - (((Int32.toUInt32 b >>> (Int32.toUInt32 1 &&& Int32.toUInt32 31)).toInt32) &&& (1431655765 : Int32))) &&& (858993459 : Int32)) + (((Int32.toUInt32 (b - (((Int32.toUInt32 b >>> (Int32.toUInt32 1 &&& Int32.toUInt32 31)).toInt32) &&& (1431655765 : Int32))) >>> (Int32.toUInt32 2 &&& Int32.toUInt32 31)).toInt32) &&& (858993459 : Int32))) >>> (Int32.toUInt32 4 &&& Int32.toUInt32 31)).toInt32)) &&& (252645135 : Int32)) >>> (Int32.toUInt32 8 &&& Int32.toUInt32 31)).toInt32)) + ((Int32.toUInt32 ((((((b - (((Int32.toUInt32 b >>> (Int32.toUInt32 1 &&& Int32.toUInt32 31)).toInt32) &&& (1431655765 : Int32))) &&& (858993459 : Int32)) + (((Int32.toUInt32 (b - (((Int32.toUInt32 b >>> (Int32.toUInt32 1 &&& Int32.toUInt32 31)).toInt32) &&& (1431655765 : Int32))) >>> (Int32.toUInt32 2 &&& Int32.toUInt32 31)).toInt32) &&& (858993459 : Int32))) + ((Int32.toUInt32 (((b - (((Int32.toUInt32 b >>> (Int32.toUInt32 1 &&& Int32.toUInt32 31)).toInt32) &&& (1431655765 : Int32))) &&& (858993459 : Int32)) + (((Int32.toUInt32 (b - (((Int32.toUInt32 b >>> (Int32.toUInt32 1 &&& Int32.toUInt32 31)).toInt32) &&& (1431655765 : Int32))) >>> (Int32.toUInt32 2 &&& Int32.toUInt32 31)).toInt32) &&& (858993459 : Int32))) >>> (Int32.toUInt32 4 &&& Int32.toUInt32 31)).toInt32)) &&& (252645135 : Int32)) + ((Int32.toUInt32 (((((b - (((Int32.toUInt32 b >>> (Int32.toUInt32 1 &&& Int32.toUInt32 31)).toInt32) &&& (1431655765 : Int32))) &&& (858993459 : Int32)) + (((Int32.toUInt32 (b - (((Int32.toUInt32 b >>> (Int32.toUInt32 1 &&& Int32.toUInt32 31)).toInt32) &&& (1431655765 : Int32))) >>> (Int32.toUInt32 2 &&& Int32.toUInt32 31)).toInt32) &&& (858993459 : Int32))) + ((Int32.toUInt32 (((b - (((Int32.toUInt32 b >>> (Int32.toUInt32 1 &&& Int32.toUInt32 31)).toInt32) &&& (1431655765 : Int32))) &&& (858993459 : Int32)) + (((Int32.toUInt32 (b - (((Int32.toUInt32 b >>> (Int32.toUInt32 1 &&& Int32.toUInt32 31)).toInt32) &&& (1431655765 : Int32))) >>> (Int32.toUInt32 2 &&& Int32.toUInt32 31)).toInt32) &&& (858993459 : Int32))) >>> (Int32.toUInt32 4 &&& Int32.toUInt32 31)).toInt32)) &&& (252645135 : Int32)) >>> (Int32.toUInt32 8 &&& Int32.toUInt32 31)).toInt32)) >>> (Int32.toUInt32 16 &&& Int32.toUInt32 31)).toInt32)) &&& (63 : Int32)))) rfl ⟨⟨_, rfl⟩, h⟩
theorem KL_weightOf_hd : ∀ n, (∀ (v1 : Int32) (v2 : Int32) (v3 : Int64) (u4 : Option Value) (v5 : Int32) (s : SG), KF s → UPB n m_X6_weightOf 4 [some (.ref 0), some (.int v1), some (.int v2), some (.long v3), u4, some (.int v5)] [] s KL) := by
  intro n
  induction n with
  | zero => exact fun _ _ _ _ _ _ _ => UPB.zero
  | succ n ih =>
    have IH4 := ih
    intro v1 v2 v3 u4 v5 s h
    refine UPB.hd 3 (i1 := 8) (L1 := [some (.ref 0), some (.int v1), some (.int v2), some (.long v3), u4, some (.int v5)]) (st1 := [.int (s 2 3), .int v5]) (s1 := s) rfl ?_
    refine UPB.ic rfl ?_ ?_
    · skip
      refine UPB.stp 1 (i1 := 26) (L1 := [some (.ref 0), some (.int v1), some (.int v2), some (.long v3), u4, some (.int v5)]) (st1 := [.long v3]) (s1 := s) rfl ?_
      exact UPB.ret (r := some (.long v3)) rfl ⟨⟨_, rfl⟩, h⟩
    · skip
      refine UPB.stp 3 (i1 := 12) (L1 := [some (.ref 0), some (.int v1), some (.int v2), some (.long v3), u4, some (.int v5)]) (st1 := [.int v5, .int v1, .long v3]) (s1 := s) rfl ?_
      refine UPB.cI (M1 := m_X6_hasBit) (as := [.int v1, .int v5]) (rest := [.long v3]) rfl rfl (KI_hasBit h v1 v5) (fun x1 s2 h3 => ?_)
      refine UPB.ifc rfl ?_ ?_
      · skip
        refine UPB.stp 8 (i1 := 4) (L1 := [some (.ref 0), some (.int v1), some (.int v2), some (.long (v3 * ((16 - v2).toInt64))), u4, some (.int (v5 + 1))]) (st1 := []) (s1 := s2) rfl ?_
        exact IH4 v1 v2 (v3 * ((16 - v2).toInt64)) u4 (v5 + 1) s2 h3
      · skip
        refine UPB.stp 7 (i1 := 4) (L1 := [some (.ref 0), some (.int v1), some (.int v2), some (.long (v3 * v2.toInt64)), u4, some (.int (v5 + 1))]) (st1 := []) (s1 := s2) rfl ?_
        exact IH4 v1 v2 (v3 * v2.toInt64) u4 (v5 + 1) s2 h3
theorem KL_weightOf {s : SG} (h : KF s) (a : Int32) (b : Int32) : UP m_X6_weightOf 0 (m_ent 6 [.ref 0, .int a, .int b]) [] s KL := by
  refine UP.of_b (fun n => ?_)
  have IH4 := KL_weightOf_hd n
  refine UPB.stp 4 (i1 := 4) (L1 := [some (.ref 0), some (.int a), some (.int b), some (.long 1), none, some (.int 0)]) (st1 := []) (s1 := s) rfl ?_
  exact IH4 a b 1 none 0 s h
theorem KI_spared_hd : ∀ n, (∀ (v1 : Int32) (v2 : Int32) (u3 : Option Value) (u4 : Option Value) (s : SG), KF s → UPB n m_X6_sparedEvents 17 [some (.ref 0), some (.int v1), some (.int v2), u3, u4] [] s KI) ∧ (∀ (v1 : Int32) (v2 : Int32) (u3 : Option Value) (u4 : Option Value) (s : SG), KF s → UPB n m_X6_sparedEvents 41 [some (.ref 0), some (.int v1), some (.int v2), u3, u4] [] s KI) ∧ (∀ (v1 : Int32) (v2 : Int32) (v3 : Int32) (u4 : Option Value) (s : SG), KF s → UPB n m_X6_sparedEvents 50 [some (.ref 0), some (.int v1), some (.int v2), some (.int v3), u4] [] s KI) := by
  intro n
  induction n with
  | zero => exact ⟨fun _ _ _ _ _ _ => UPB.zero, fun _ _ _ _ _ _ => UPB.zero, fun _ _ _ _ _ _ => UPB.zero⟩
  | succ n ih =>
    obtain ⟨IH17, IH41, IH50⟩ := ih
    refine ⟨?_, ?_, ?_⟩
    · intro v1 v2 u3 u4 s h
      refine UPB.hd 3 (i1 := 21) (L1 := [some (.ref 0), some (.int v1), some (.int v2), u3, u4]) (st1 := [.int (s 2 3), .int v2]) (s1 := s) rfl ?_
      refine UPB.ic rfl ?_ ?_
      · skip
        refine UPB.stp 2 (i1 := 41) (L1 := [some (.ref 0), some (.int v1), some (.int 0), u3, u4]) (st1 := []) (s1 := s) rfl ?_
        exact IH41 v1 0 u3 u4 s h
      · skip
        refine UPB.stp 8 (i1 := 30) (L1 := [some (.ref 0), some (.int v1), some (.int v2), u3, u4]) (st1 := [.int (v1 &&& ((1 <<< (v2 &&& 31)) ^^^ (-1 : Int32))), .ref 0]) (s1 := s) rfl ?_
        refine UPB.cI (M1 := m_X6_firstAgroundWith) (as := [.ref 0, .int (v1 &&& ((1 <<< (v2 &&& 31)) ^^^ (-1 : Int32)))]) (rest := []) rfl rfl (KI_faw h (v1 &&& ((1 <<< (v2 &&& 31)) ^^^ (-1 : Int32)))) (fun x4 s5 h6 => ?_)
        refine UPB.stp 1 (i1 := 32) (L1 := [some (.ref 0), some (.int v1), some (.int v2), u3, u4]) (st1 := [.int (-1), .int x4]) (s1 := s5) rfl ?_
        refine UPB.ic rfl ?_ ?_
        · skip
          refine UPB.stp 2 (i1 := 17) (L1 := [some (.ref 0), some (.int v1), some (.int (v2 + 1)), u3, u4]) (st1 := []) (s1 := s5) rfl ?_
          exact IH17 v1 (v2 + 1) u3 u4 s5 h6
        · skip
          refine UPB.stp 3 (i1 := 36) (L1 := [some (.ref 0), some (.int v1), some (.int v2), u3, u4]) (st1 := [.int (1 <<< (v2 &&& 31))]) (s1 := s5) rfl ?_
          exact UPB.ret (r := some (.int (1 <<< (v2 &&& 31)))) rfl ⟨⟨_, rfl⟩, h6⟩
    · intro v1 v2 u3 u4 s h
      refine UPB.hd 3 (i1 := 45) (L1 := [some (.ref 0), some (.int v1), some (.int v2), u3, u4]) (st1 := [.int (s 2 3), .int v2]) (s1 := s) rfl ?_
      refine UPB.ic rfl ?_ ?_
      · skip
        refine UPB.stp 1 (i1 := 79) (L1 := [some (.ref 0), some (.int v1), some (.int v2), u3, u4]) (st1 := [.int (-1)]) (s1 := s) rfl ?_
        exact UPB.ret (r := some (.int (-1))) rfl ⟨⟨_, rfl⟩, h⟩
      · skip
        refine UPB.stp 4 (i1 := 50) (L1 := [some (.ref 0), some (.int v1), some (.int v2), some (.int (v2 + 1)), u4]) (st1 := []) (s1 := s) rfl ?_
        exact IH50 v1 v2 (v2 + 1) u4 s h
    · intro v1 v2 v3 u4 s h
      refine UPB.hd 3 (i1 := 54) (L1 := [some (.ref 0), some (.int v1), some (.int v2), some (.int v3), u4]) (st1 := [.int (s 2 3), .int v3]) (s1 := s) rfl ?_
      refine UPB.ic rfl ?_ ?_
      · skip
        refine UPB.stp 2 (i1 := 41) (L1 := [some (.ref 0), some (.int v1), some (.int (v2 + 1)), some (.int v3), u4]) (st1 := []) (s1 := s) rfl ?_
        exact IH41 v1 (v2 + 1) (some (.int v3)) u4 s h
      · skip
        refine UPB.stp 14 (i1 := 69) (L1 := [some (.ref 0), some (.int v1), some (.int v2), some (.int v3), some (.int ((1 <<< (v2 &&& 31)) ||| (1 <<< (v3 &&& 31))))]) (st1 := [.int (v1 &&& (((1 <<< (v2 &&& 31)) ||| (1 <<< (v3 &&& 31))) ^^^ (-1 : Int32))), .ref 0]) (s1 := s) rfl ?_
        refine UPB.cI (M1 := m_X6_firstAgroundWith) (as := [.ref 0, .int (v1 &&& (((1 <<< (v2 &&& 31)) ||| (1 <<< (v3 &&& 31))) ^^^ (-1 : Int32)))]) (rest := []) rfl rfl (KI_faw h (v1 &&& (((1 <<< (v2 &&& 31)) ||| (1 <<< (v3 &&& 31))) ^^^ (-1 : Int32)))) (fun x7 s8 h9 => ?_)
        refine UPB.stp 1 (i1 := 71) (L1 := [some (.ref 0), some (.int v1), some (.int v2), some (.int v3), some (.int ((1 <<< (v2 &&& 31)) ||| (1 <<< (v3 &&& 31))))]) (st1 := [.int (-1), .int x7]) (s1 := s8) rfl ?_
        refine UPB.ic rfl ?_ ?_
        · skip
          refine UPB.stp 2 (i1 := 50) (L1 := [some (.ref 0), some (.int v1), some (.int v2), some (.int (v3 + 1)), some (.int ((1 <<< (v2 &&& 31)) ||| (1 <<< (v3 &&& 31))))]) (st1 := []) (s1 := s8) rfl ?_
          exact IH50 v1 v2 (v3 + 1) (some (.int ((1 <<< (v2 &&& 31)) ||| (1 <<< (v3 &&& 31))))) s8 h9
        · skip
          refine UPB.stp 1 (i1 := 73) (L1 := [some (.ref 0), some (.int v1), some (.int v2), some (.int v3), some (.int ((1 <<< (v2 &&& 31)) ||| (1 <<< (v3 &&& 31))))]) (st1 := [.int ((1 <<< (v2 &&& 31)) ||| (1 <<< (v3 &&& 31)))]) (s1 := s8) rfl ?_
          exact UPB.ret (r := some (.int ((1 <<< (v2 &&& 31)) ||| (1 <<< (v3 &&& 31))))) rfl ⟨⟨_, rfl⟩, h9⟩
theorem KI_spared {s : SG} (h : KF s)  : UP m_X6_sparedEvents 0 (m_ent 5 [.ref 0]) [] s KI := by
  refine UP.of_b (fun n => ?_)
  obtain ⟨IH17, IH41, IH50⟩ := KI_spared_hd n
  refine UPB.stp 10 (i1 := 10) (L1 := [some (.ref 0), some (.int ((1 <<< ((s 2 3) &&& 31)) - 1)), none, none, none]) (st1 := [.int ((1 <<< ((s 2 3) &&& 31)) - 1), .ref 0]) (s1 := s) rfl ?_
  refine UPB.cI (M1 := m_X6_firstAgroundWith) (as := [.ref 0, .int ((1 <<< ((s 2 3) &&& 31)) - 1)]) (rest := []) rfl rfl (KI_faw h ((1 <<< ((s 2 3) &&& 31)) - 1)) (fun x1 s2 h3 => ?_)
  refine UPB.stp 1 (i1 := 12) (L1 := [some (.ref 0), some (.int ((1 <<< ((s 2 3) &&& 31)) - 1)), none, none, none]) (st1 := [.int (-1), .int x1]) (s1 := s2) rfl ?_
  refine UPB.ic rfl ?_ ?_
  · skip
    refine UPB.stp 2 (i1 := 17) (L1 := [some (.ref 0), some (.int ((1 <<< ((s 2 3) &&& 31)) - 1)), some (.int 0), none, none]) (st1 := []) (s1 := s2) rfl ?_
    exact IH17 ((1 <<< ((s 2 3) &&& 31)) - 1) 0 none none s2 h3
  · skip
    refine UPB.stp 1 (i1 := 14) (L1 := [some (.ref 0), some (.int ((1 <<< ((s 2 3) &&& 31)) - 1)), none, none, none]) (st1 := [.int 0]) (s1 := s2) rfl ?_
    exact UPB.ret (r := some (.int 0)) rfl ⟨⟨_, rfl⟩, h3⟩
theorem KI_spare {s : SG} (h : KF s) (a : Int32) : UP m_X6_spare 0 (m_ent 3 [.ref 0, .int a]) [] s KI := by
  refine UP.of_b (fun n => ?_)
  refine UPB.stp 2 (i1 := 2) (L1 := [some (.ref 0), some (.int a), none]) (st1 := [.int (-1), .int a]) (s1 := s) rfl ?_
  refine UPB.ic rfl ?_ ?_
  · skip
    refine UPB.stp 1 (i1 := 7) (L1 := [some (.ref 0), some (.int a), none]) (st1 := [.int (-2)]) (s1 := s) rfl ?_
    exact UPB.ret (r := some (.int (-2))) rfl ⟨⟨_, rfl⟩, h⟩
  · skip
    refine UPB.stp 2 (i1 := 5) (L1 := [some (.ref 0), some (.int a), none]) (st1 := [.int 2, .int a]) (s1 := s) rfl ?_
    refine UPB.ic rfl ?_ ?_
    · skip
      refine UPB.stp 1 (i1 := 9) (L1 := [some (.ref 0), some (.int a), none]) (st1 := [.ref 0]) (s1 := s) rfl ?_
      refine UPB.cI (M1 := m_X6_sparedEvents) (as := [.ref 0]) (rest := []) rfl rfl (KI_spared h) (fun x1 s2 h3 => ?_)
      refine UPB.stp 3 (i1 := 13) (L1 := [some (.ref 0), some (.int a), some (.int x1)]) (st1 := [.int (-1), .int x1]) (s1 := s2) rfl ?_
      refine UPB.ic rfl ?_ ?_
      · skip
        refine UPB.stp 2 (i1 := 18) (L1 := [some (.ref 0), some (.int a), some (.int x1)]) (st1 := [.int (-1), .int a]) (s1 := s2) rfl ?_
        refine UPB.ic rfl ?_ ?_
        · skip
          refine UPB.stp 2 (i1 := 24) (L1 := [some (.ref 0), some (.int a), some (.int x1)]) (st1 := [.int a, .int x1]) (s1 := s2) rfl ?_
          refine UPB.cI (M1 := m_X6_ithBit) (as := [.int x1, .int a]) (rest := []) rfl rfl (KI_ithBit h3 x1 a) (fun x4 s5 h6 => ?_)
          exact UPB.ret (r := some (.int x4)) rfl ⟨⟨_, rfl⟩, h6⟩
        · skip
          refine UPB.stp 1 (i1 := 20) (L1 := [some (.ref 0), some (.int a), some (.int x1)]) (st1 := [.int x1]) (s1 := s2) rfl ?_
          refine UPB.cI (M1 := m_J6_bitCount_0f7a4) (as := [.int x1]) (rest := []) rfl rfl (KI_bitCount h3 x1) (fun x7 s8 h9 => ?_)
          refine UPB.stp 1 (i1 := 25) (L1 := [some (.ref 0), some (.int a), some (.int x1)]) (st1 := [.int x7]) (s1 := s8) rfl ?_
          exact UPB.ret (r := some (.int x7)) rfl ⟨⟨_, rfl⟩, h9⟩
      · skip
        refine UPB.stp 1 (i1 := 15) (L1 := [some (.ref 0), some (.int a), some (.int x1)]) (st1 := [.int (-1)]) (s1 := s2) rfl ?_
        exact UPB.ret (r := some (.int (-1))) rfl ⟨⟨_, rfl⟩, h3⟩
    · skip
      refine UPB.stp 1 (i1 := 7) (L1 := [some (.ref 0), some (.int a), none]) (st1 := [.int (-2)]) (s1 := s) rfl ?_
      exact UPB.ret (r := some (.int (-2))) rfl ⟨⟨_, rfl⟩, h⟩
theorem KL_chance_hd : ∀ n, (∀ (v1 : Int32) (v2 : Int32) (v3 : Int32) (v4 : Int64) (u5 : Option Value) (v6 : Int32) (u7 : Option Value) (u8 : Option Value) (s : SG), KF s → UPB n m_X6_chance 18 [some (.ref 0), some (.int v1), some (.int v2), some (.int v3), some (.long v4), u5, some (.int v6), u7, u8] [] s KL) ∧ (∀ (v1 : Int32) (v2 : Int32) (v3 : Int32) (v4 : Int64) (u5 : Option Value) (v6 : Int64) (u7 : Option Value) (v8 : Int32) (s : SG), KF s → UPB n m_X6_chance 55 [some (.ref 0), some (.int v1), some (.int v2), some (.int v3), some (.long v4), u5, some (.long v6), u7, some (.int v8)] [] s KL) := by
  intro n
  induction n with
  | zero => exact ⟨fun _ _ _ _ _ _ _ _ _ _ => UPB.zero, fun _ _ _ _ _ _ _ _ _ _ => UPB.zero⟩
  | succ n ih =>
    obtain ⟨IH18, IH55⟩ := ih
    refine ⟨?_, ?_⟩
    · intro v1 v2 v3 v4 u5 v6 u7 u8 s h
      refine UPB.hd 5 (i1 := 24) (L1 := [some (.ref 0), some (.int v1), some (.int v2), some (.int v3), some (.long v4), u5, some (.int v6), u7, u8]) (st1 := [.int (1 <<< ((s 2 3) &&& 31)), .int v6]) (s1 := s) rfl ?_
      refine UPB.ic rfl ?_ ?_
      · skip
        refine UPB.stp 10 (i1 := 55) (L1 := [some (.ref 0), some (.int v1), some (.int v2), some (.int v3), some (.long v4), u5, some (.long (1 <<< ((4 * (s 2 3)).toInt64 &&& 63))), u7, some (.int 0)]) (st1 := []) (s1 := s) rfl ?_
        exact IH55 v1 v2 v3 v4 u5 (1 <<< ((4 * (s 2 3)).toInt64 &&& 63)) u7 0 s h
      · skip
        refine UPB.stp 3 (i1 := 28) (L1 := [some (.ref 0), some (.int v1), some (.int v2), some (.int v3), some (.long v4), u5, some (.int v6), u7, u8]) (st1 := [.int v1, .int v6, .ref 0]) (s1 := s) rfl ?_
        refine UPB.cL (M1 := m_X6_weightOf) (as := [.ref 0, .int v6, .int v1]) (rest := []) rfl rfl (KL_weightOf h v6 v1) (fun x10 s11 h12 => ?_)
        refine UPB.stp 4 (i1 := 33) (L1 := [some (.ref 0), some (.int v1), some (.int v2), some (.int v3), some (.long v4), u5, some (.int v6), some (.long x10), u8]) (st1 := [.int (lg_cmp x10 0)]) (s1 := s11) rfl ?_
        refine UPB.ifc rfl ?_ ?_
        · skip
          refine UPB.stp 2 (i1 := 18) (L1 := [some (.ref 0), some (.int v1), some (.int v2), some (.int v3), some (.long v4), u5, some (.int (v6 + 1)), some (.long x10), u8]) (st1 := []) (s1 := s11) rfl ?_
          exact IH18 v1 v2 v3 v4 u5 (v6 + 1) (some (.long x10)) u8 s11 h12
        · skip
          refine UPB.stp 3 (i1 := 37) (L1 := [some (.ref 0), some (.int v1), some (.int v2), some (.int v3), some (.long v4), u5, some (.int v6), some (.long x10), u8]) (st1 := [.int v6, .int v2, .ref 0]) (s1 := s11) rfl ?_
          refine UPB.cI (M1 := m_X6_isAgroundBy) (as := [.ref 0, .int v2, .int v6]) (rest := []) rfl rfl (KI_iab h12 v2 v6) (fun x13 s14 h15 => ?_)
          refine UPB.ifc rfl ?_ ?_
          · skip
            refine UPB.stp 2 (i1 := 18) (L1 := [some (.ref 0), some (.int v1), some (.int v2), some (.int v3), some (.long v4), u5, some (.int (v6 + 1)), some (.long x10), u8]) (st1 := []) (s1 := s14) rfl ?_
            exact IH18 v1 v2 v3 v4 u5 (v6 + 1) (some (.long x10)) u8 s14 h15
          · skip
            refine UPB.stp 6 (i1 := 18) (L1 := [some (.ref 0), some (.int v1), some (.int v2), some (.int v3), some (.long (v4 + x10)), u5, some (.int (v6 + 1)), some (.long x10), u8]) (st1 := []) (s1 := s14) rfl ?_
            exact IH18 v1 v2 v3 (v4 + x10) u5 (v6 + 1) (some (.long x10)) u8 s14 h15
    · intro v1 v2 v3 v4 u5 v6 u7 v8 s h
      refine UPB.hd 1 (i1 := 57) (L1 := [some (.ref 0), some (.int v1), some (.int v2), some (.int v3), some (.long v4), u5, some (.long v6), u7, some (.int v8)]) (st1 := [.int 32, .int v8]) (s1 := s) rfl ?_
      refine UPB.ic rfl ?_ ?_
      · skip
        refine UPB.stp 1 (i1 := 79) (L1 := [some (.ref 0), some (.int v1), some (.int v2), some (.int v3), some (.long v4), u5, some (.long v6), u7, some (.int v8)]) (st1 := [.int v3]) (s1 := s) rfl ?_
        refine UPB.ifc rfl ?_ ?_
        · skip
          refine UPB.stp 1 (i1 := 83) (L1 := [some (.ref 0), some (.int v1), some (.int v2), some (.int v3), some (.long v4), u5, some (.long v6), u7, some (.int v8)]) (st1 := [.long v6]) (s1 := s) rfl ?_
          exact UPB.ret (r := some (.long v6)) rfl ⟨⟨_, rfl⟩, h⟩
        · skip
          refine UPB.stp 2 (i1 := 83) (L1 := [some (.ref 0), some (.int v1), some (.int v2), some (.int v3), some (.long v4), u5, some (.long v6), u7, some (.int v8)]) (st1 := [.long v4]) (s1 := s) rfl ?_
          exact UPB.ret (r := some (.long v4)) rfl ⟨⟨_, rfl⟩, h⟩
      · skip
        refine UPB.stp 3 (i1 := 61) (L1 := [some (.ref 0), some (.int v1), some (.int v2), some (.int v3), some (.long v4), u5, some (.long v6), u7, some (.int v8)]) (st1 := [.int (lg_cmp v6 1)]) (s1 := s) rfl ?_
        refine UPB.ifc rfl ?_ ?_
        · skip
          refine UPB.stp 1 (i1 := 79) (L1 := [some (.ref 0), some (.int v1), some (.int v2), some (.int v3), some (.long v4), u5, some (.long v6), u7, some (.int v8)]) (st1 := [.int v3]) (s1 := s) rfl ?_
          refine UPB.ifc rfl ?_ ?_
          · skip
            refine UPB.stp 1 (i1 := 83) (L1 := [some (.ref 0), some (.int v1), some (.int v2), some (.int v3), some (.long v4), u5, some (.long v6), u7, some (.int v8)]) (st1 := [.long v6]) (s1 := s) rfl ?_
            exact UPB.ret (r := some (.long v6)) rfl ⟨⟨_, rfl⟩, h⟩
          · skip
            refine UPB.stp 2 (i1 := 83) (L1 := [some (.ref 0), some (.int v1), some (.int v2), some (.int v3), some (.long v4), u5, some (.long v6), u7, some (.int v8)]) (st1 := [.long v4]) (s1 := s) rfl ?_
            exact UPB.ret (r := some (.long v4)) rfl ⟨⟨_, rfl⟩, h⟩
        · skip
          refine UPB.stp 5 (i1 := 67) (L1 := [some (.ref 0), some (.int v1), some (.int v2), some (.int v3), some (.long v4), u5, some (.long v6), u7, some (.int v8)]) (st1 := [.int (lg_cmp (v4 - v4 / 2 * 2) 0)]) (s1 := s) rfl ?_
          refine UPB.ifc rfl ?_ ?_
          · skip
            refine UPB.stp 1 (i1 := 79) (L1 := [some (.ref 0), some (.int v1), some (.int v2), some (.int v3), some (.long v4), u5, some (.long v6), u7, some (.int v8)]) (st1 := [.int v3]) (s1 := s) rfl ?_
            refine UPB.ifc rfl ?_ ?_
            · skip
              refine UPB.stp 1 (i1 := 83) (L1 := [some (.ref 0), some (.int v1), some (.int v2), some (.int v3), some (.long v4), u5, some (.long v6), u7, some (.int v8)]) (st1 := [.long v6]) (s1 := s) rfl ?_
              exact UPB.ret (r := some (.long v6)) rfl ⟨⟨_, rfl⟩, h⟩
            · skip
              refine UPB.stp 2 (i1 := 83) (L1 := [some (.ref 0), some (.int v1), some (.int v2), some (.int v3), some (.long v4), u5, some (.long v6), u7, some (.int v8)]) (st1 := [.long v4]) (s1 := s) rfl ?_
              exact UPB.ret (r := some (.long v4)) rfl ⟨⟨_, rfl⟩, h⟩
          · skip
            refine UPB.stp 10 (i1 := 55) (L1 := [some (.ref 0), some (.int v1), some (.int v2), some (.int v3), some (.long (v4 / 2)), u5, some (.long (v6 / 2)), u7, some (.int (v8 + 1))]) (st1 := []) (s1 := s) rfl ?_
            exact IH55 v1 v2 v3 (v4 / 2) u5 (v6 / 2) u7 (v8 + 1) s h
theorem KL_chance {s : SG} (h : KF s) (a : Int32) (b : Int32) (c : Int32) : UP m_X6_chance 0 (m_ent 9 [.ref 0, .int a, .int b, .int c]) [] s KL := by
  refine UP.of_b (fun n => ?_)
  obtain ⟨IH18, IH55⟩ := KL_chance_hd n
  refine UPB.stp 2 (i1 := 2) (L1 := [some (.ref 0), some (.int a), some (.int b), some (.int c), none, none, none, none, none]) (st1 := [.int 17, .int a]) (s1 := s) rfl ?_
  refine UPB.cI (M1 := m_X6_isBelow) (as := [.int a, .int 17]) (rest := []) rfl rfl (KI_isBelow h a 17) (fun x1 s2 h3 => ?_)
  refine UPB.ifc rfl ?_ ?_
  · skip
    refine UPB.stp 1 (i1 := 13) (L1 := [some (.ref 0), some (.int a), some (.int b), some (.int c), none, none, none, none, none]) (st1 := [.long (-9223372036854775806)]) (s1 := s2) rfl ?_
    exact UPB.ret (r := some (.long (-9223372036854775806))) rfl ⟨⟨_, rfl⟩, h3⟩
  · skip
    refine UPB.stp 2 (i1 := 6) (L1 := [some (.ref 0), some (.int a), some (.int b), some (.int c), none, none, none, none, none]) (st1 := [.int 24, .int b]) (s1 := s2) rfl ?_
    refine UPB.cI (M1 := m_X6_isBelow) (as := [.int b, .int 24]) (rest := []) rfl rfl (KI_isBelow h3 b 24) (fun x4 s5 h6 => ?_)
    refine UPB.ifc rfl ?_ ?_
    · skip
      refine UPB.stp 1 (i1 := 13) (L1 := [some (.ref 0), some (.int a), some (.int b), some (.int c), none, none, none, none, none]) (st1 := [.long (-9223372036854775806)]) (s1 := s5) rfl ?_
      exact UPB.ret (r := some (.long (-9223372036854775806))) rfl ⟨⟨_, rfl⟩, h6⟩
    · skip
      refine UPB.stp 2 (i1 := 10) (L1 := [some (.ref 0), some (.int a), some (.int b), some (.int c), none, none, none, none, none]) (st1 := [.int 2, .int c]) (s1 := s5) rfl ?_
      refine UPB.cI (M1 := m_X6_isBelow) (as := [.int c, .int 2]) (rest := []) rfl rfl (KI_isBelow h6 c 2) (fun x7 s8 h9 => ?_)
      refine UPB.ifc rfl ?_ ?_
      · skip
        refine UPB.stp 4 (i1 := 18) (L1 := [some (.ref 0), some (.int a), some (.int b), some (.int c), some (.long 0), none, some (.int 0), none, none]) (st1 := []) (s1 := s8) rfl ?_
        exact IH18 a b c 0 none 0 none none s8 h9
      · skip
        refine UPB.stp 1 (i1 := 13) (L1 := [some (.ref 0), some (.int a), some (.int b), some (.int c), none, none, none, none, none]) (st1 := [.long (-9223372036854775806)]) (s1 := s8) rfl ?_
        exact UPB.ret (r := some (.long (-9223372036854775806))) rfl ⟨⟨_, rfl⟩, h9⟩
end
