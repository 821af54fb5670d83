/-! copy (printed by wip/u/mk_sh.py) -/
def G_hr (q : Nat) (s : SG) (f m : Int32) : Bool := bif m_cmp .lt f 0 then false else (bif m_cmp .lt m 0 then false else !(m_cmp .gt f ((s (115 + 2 * q) 3) - m)))
def G_ccopy (q r : Nat) (s : SG) (i j n : Int32) : Int32 × SG := bif m_cmp .ne (s (115 + 2 * q) 1) 0 then F_find s 1 else (bif m_cmp .eq (s (115 + 2 * r) 1) 0 then (bif m_cmp .eq (s (115 + 2 * q) 2) (s (115 + 2 * r) 2) then (bif G_hr q s i n then (bif G_hr r s j n then (1, mvs s (116 + 2 * q) i.toNatClampNeg (116 + 2 * r) j.toNatClampNeg n.toNatClampNeg) else F_find s 2) else F_find s 2) else F_find s 4) else F_find s 1)
theorem hr_0_e (s : SG) (f m : Int32) : m_cmp .eq (F_hasRange_0 s f m) 0 = !(G_hr 0 s f m) := by
  dsimp only [F_hasRange_0, G_hr]
  cases m_cmp .lt f 0
  · cases m_cmp .lt m 0
    · cases m_cmp .gt f ((s 115 3) - m) <;> rfl
    · rfl
  · rfl
theorem hr_0_n (s : SG) (f m : Int32) : m_cmp .ne (F_hasRange_0 s f m) 0 = G_hr 0 s f m := by
  dsimp only [F_hasRange_0, G_hr]
  cases m_cmp .lt f 0
  · cases m_cmp .lt m 0
    · cases m_cmp .gt f ((s 115 3) - m) <;> rfl
    · rfl
  · rfl
theorem hr_1_e (s : SG) (f m : Int32) : m_cmp .eq (F_hasRange_1 s f m) 0 = !(G_hr 1 s f m) := by
  dsimp only [F_hasRange_1, G_hr]
  cases m_cmp .lt f 0
  · cases m_cmp .lt m 0
    · cases m_cmp .gt f ((s 117 3) - m) <;> rfl
    · rfl
  · rfl
theorem hr_1_n (s : SG) (f m : Int32) : m_cmp .ne (F_hasRange_1 s f m) 0 = G_hr 1 s f m := by
  dsimp only [F_hasRange_1, G_hr]
  cases m_cmp .lt f 0
  · cases m_cmp .lt m 0
    · cases m_cmp .gt f ((s 117 3) - m) <;> rfl
    · rfl
  · rfl
theorem hr_2_e (s : SG) (f m : Int32) : m_cmp .eq (F_hasRange_2 s f m) 0 = !(G_hr 2 s f m) := by
  dsimp only [F_hasRange_2, G_hr]
  cases m_cmp .lt f 0
  · cases m_cmp .lt m 0
    · cases m_cmp .gt f ((s 119 3) - m) <;> rfl
    · rfl
  · rfl
theorem hr_2_n (s : SG) (f m : Int32) : m_cmp .ne (F_hasRange_2 s f m) 0 = G_hr 2 s f m := by
  dsimp only [F_hasRange_2, G_hr]
  cases m_cmp .lt f 0
  · cases m_cmp .lt m 0
    · cases m_cmp .gt f ((s 119 3) - m) <;> rfl
    · rfl
  · rfl
theorem hr_3_e (s : SG) (f m : Int32) : m_cmp .eq (F_hasRange_3 s f m) 0 = !(G_hr 3 s f m) := by
  dsimp only [F_hasRange_3, G_hr]
  cases m_cmp .lt f 0
  · cases m_cmp .lt m 0
    · cases m_cmp .gt f ((s 121 3) - m) <;> rfl
    · rfl
  · rfl
theorem hr_3_n (s : SG) (f m : Int32) : m_cmp .ne (F_hasRange_3 s f m) 0 = G_hr 3 s f m := by
  dsimp only [F_hasRange_3, G_hr]
  cases m_cmp .lt f 0
  · cases m_cmp .lt m 0
    · cases m_cmp .gt f ((s 121 3) - m) <;> rfl
    · rfl
  · rfl
theorem gl_ccopy_00 (s : SG) (i j n : Int32) : F_ccopy_00 s i j n = G_ccopy 0 0 s i j n := by
  have e1 : m_cmp .eq (F_isBelow s 0 4) 0 = false := rfl
  have e2 : m_cmp .ne (F_isBelow s 0 4) 0 = true := rfl
  dsimp only [F_ccopy_00, G_ccopy, Nat.reduceMul, Nat.reduceAdd]
  rw [e1, e2, hr_0_e, hr_0_n, Bool.cond_not, cF, cT]
theorem gl_ccopy_01 (s : SG) (i j n : Int32) : F_ccopy_01 s i j n = G_ccopy 0 1 s i j n := by
  have e1 : m_cmp .eq (F_isBelow s 0 4) 0 = false := rfl
  have e2 : m_cmp .ne (F_isBelow s 1 4) 0 = true := rfl
  dsimp only [F_ccopy_01, G_ccopy, Nat.reduceMul, Nat.reduceAdd]
  rw [e1, e2, hr_0_e, hr_1_n, Bool.cond_not, cF, cT]
theorem gl_ccopy_02 (s : SG) (i j n : Int32) : F_ccopy_02 s i j n = G_ccopy 0 2 s i j n := by
  have e1 : m_cmp .eq (F_isBelow s 0 4) 0 = false := rfl
  have e2 : m_cmp .ne (F_isBelow s 2 4) 0 = true := rfl
  dsimp only [F_ccopy_02, G_ccopy, Nat.reduceMul, Nat.reduceAdd]
  rw [e1, e2, hr_0_e, hr_2_n, Bool.cond_not, cF, cT]
theorem gl_ccopy_03 (s : SG) (i j n : Int32) : F_ccopy_03 s i j n = G_ccopy 0 3 s i j n := by
  have e1 : m_cmp .eq (F_isBelow s 0 4) 0 = false := rfl
  have e2 : m_cmp .ne (F_isBelow s 3 4) 0 = true := rfl
  dsimp only [F_ccopy_03, G_ccopy, Nat.reduceMul, Nat.reduceAdd]
  rw [e1, e2, hr_0_e, hr_3_n, Bool.cond_not, cF, cT]
theorem gl_ccopy_10 (s : SG) (i j n : Int32) : F_ccopy_10 s i j n = G_ccopy 1 0 s i j n := by
  have e1 : m_cmp .eq (F_isBelow s 1 4) 0 = false := rfl
  have e2 : m_cmp .ne (F_isBelow s 0 4) 0 = true := rfl
  dsimp only [F_ccopy_10, G_ccopy, Nat.reduceMul, Nat.reduceAdd]
  rw [e1, e2, hr_1_e, hr_0_n, Bool.cond_not, cF, cT]
theorem gl_ccopy_11 (s : SG) (i j n : Int32) : F_ccopy_11 s i j n = G_ccopy 1 1 s i j n := by
  have e1 : m_cmp .eq (F_isBelow s 1 4) 0 = false := rfl
  have e2 : m_cmp .ne (F_isBelow s 1 4) 0 = true := rfl
  dsimp only [F_ccopy_11, G_ccopy, Nat.reduceMul, Nat.reduceAdd]
  rw [e1, e2, hr_1_e, hr_1_n, Bool.cond_not, cF, cT]
theorem gl_ccopy_12 (s : SG) (i j n : Int32) : F_ccopy_12 s i j n = G_ccopy 1 2 s i j n := by
  have e1 : m_cmp .eq (F_isBelow s 1 4) 0 = false := rfl
  have e2 : m_cmp .ne (F_isBelow s 2 4) 0 = true := rfl
  dsimp only [F_ccopy_12, G_ccopy, Nat.reduceMul, Nat.reduceAdd]
  rw [e1, e2, hr_1_e, hr_2_n, Bool.cond_not, cF, cT]
theorem gl_ccopy_13 (s : SG) (i j n : Int32) : F_ccopy_13 s i j n = G_ccopy 1 3 s i j n := by
  have e1 : m_cmp .eq (F_isBelow s 1 4) 0 = false := rfl
  have e2 : m_cmp .ne (F_isBelow s 3 4) 0 = true := rfl
  dsimp only [F_ccopy_13, G_ccopy, Nat.reduceMul, Nat.reduceAdd]
  rw [e1, e2, hr_1_e, hr_3_n, Bool.cond_not, cF, cT]
theorem gl_ccopy_20 (s : SG) (i j n : Int32) : F_ccopy_20 s i j n = G_ccopy 2 0 s i j n := by
  have e1 : m_cmp .eq (F_isBelow s 2 4) 0 = false := rfl
  have e2 : m_cmp .ne (F_isBelow s 0 4) 0 = true := rfl
  dsimp only [F_ccopy_20, G_ccopy, Nat.reduceMul, Nat.reduceAdd]
  rw [e1, e2, hr_2_e, hr_0_n, Bool.cond_not, cF, cT]
theorem gl_ccopy_21 (s : SG) (i j n : Int32) : F_ccopy_21 s i j n = G_ccopy 2 1 s i j n := by
  have e1 : m_cmp .eq (F_isBelow s 2 4) 0 = false := rfl
  have e2 : m_cmp .ne (F_isBelow s 1 4) 0 = true := rfl
  dsimp only [F_ccopy_21, G_ccopy, Nat.reduceMul, Nat.reduceAdd]
  rw [e1, e2, hr_2_e, hr_1_n, Bool.cond_not, cF, cT]
theorem gl_ccopy_22 (s : SG) (i j n : Int32) : F_ccopy_22 s i j n = G_ccopy 2 2 s i j n := by
  have e1 : m_cmp .eq (F_isBelow s 2 4) 0 = false := rfl
  have e2 : m_cmp .ne (F_isBelow s 2 4) 0 = true := rfl
  dsimp only [F_ccopy_22, G_ccopy, Nat.reduceMul, Nat.reduceAdd]
  rw [e1, e2, hr_2_e, hr_2_n, Bool.cond_not, cF, cT]
theorem gl_ccopy_23 (s : SG) (i j n : Int32) : F_ccopy_23 s i j n = G_ccopy 2 3 s i j n := by
  have e1 : m_cmp .eq (F_isBelow s 2 4) 0 = false := rfl
  have e2 : m_cmp .ne (F_isBelow s 3 4) 0 = true := rfl
  dsimp only [F_ccopy_23, G_ccopy, Nat.reduceMul, Nat.reduceAdd]
  rw [e1, e2, hr_2_e, hr_3_n, Bool.cond_not, cF, cT]
theorem gl_ccopy_30 (s : SG) (i j n : Int32) : F_ccopy_30 s i j n = G_ccopy 3 0 s i j n := by
  have e1 : m_cmp .eq (F_isBelow s 3 4) 0 = false := rfl
  have e2 : m_cmp .ne (F_isBelow s 0 4) 0 = true := rfl
  dsimp only [F_ccopy_30, G_ccopy, Nat.reduceMul, Nat.reduceAdd]
  rw [e1, e2, hr_3_e, hr_0_n, Bool.cond_not, cF, cT]
theorem gl_ccopy_31 (s : SG) (i j n : Int32) : F_ccopy_31 s i j n = G_ccopy 3 1 s i j n := by
  have e1 : m_cmp .eq (F_isBelow s 3 4) 0 = false := rfl
  have e2 : m_cmp .ne (F_isBelow s 1 4) 0 = true := rfl
  dsimp only [F_ccopy_31, G_ccopy, Nat.reduceMul, Nat.reduceAdd]
  rw [e1, e2, hr_3_e, hr_1_n, Bool.cond_not, cF, cT]
theorem gl_ccopy_32 (s : SG) (i j n : Int32) : F_ccopy_32 s i j n = G_ccopy 3 2 s i j n := by
  have e1 : m_cmp .eq (F_isBelow s 3 4) 0 = false := rfl
  have e2 : m_cmp .ne (F_isBelow s 2 4) 0 = true := rfl
  dsimp only [F_ccopy_32, G_ccopy, Nat.reduceMul, Nat.reduceAdd]
  rw [e1, e2, hr_3_e, hr_2_n, Bool.cond_not, cF, cT]
theorem gl_ccopy_33 (s : SG) (i j n : Int32) : F_ccopy_33 s i j n = G_ccopy 3 3 s i j n := by
  have e1 : m_cmp .eq (F_isBelow s 3 4) 0 = false := rfl
  have e2 : m_cmp .ne (F_isBelow s 3 4) 0 = true := rfl
  dsimp only [F_ccopy_33, G_ccopy, Nat.reduceMul, Nat.reduceAdd]
  rw [e1, e2, hr_3_e, hr_3_n, Bool.cond_not, cF, cT]
def F_ccopy (s : SG) (s_ i t j n : Int32) : Int32 × SG := if s_ = 0 then (if t = 0 then F_ccopy_00 s i j n else if t = 1 then F_ccopy_01 s i j n else if t = 2 then F_ccopy_02 s i j n else if t = 3 then F_ccopy_03 s i j n else ((-2), s)) else if s_ = 1 then (if t = 0 then F_ccopy_10 s i j n else if t = 1 then F_ccopy_11 s i j n else if t = 2 then F_ccopy_12 s i j n else if t = 3 then F_ccopy_13 s i j n else ((-2), s)) else if s_ = 2 then (if t = 0 then F_ccopy_20 s i j n else if t = 1 then F_ccopy_21 s i j n else if t = 2 then F_ccopy_22 s i j n else if t = 3 then F_ccopy_23 s i j n else ((-2), s)) else if s_ = 3 then (if t = 0 then F_ccopy_30 s i j n else if t = 1 then F_ccopy_31 s i j n else if t = 2 then F_ccopy_32 s i j n else if t = 3 then F_ccopy_33 s i j n else ((-2), s)) else ((-2), s)
theorem ux_ccopy (s : SG) (s_ i t j n : Int32) : UP m_X6_copy 0 (m_ent 8 [.ref 0, .int s_, .int i, .int t, .int j, .int n]) [] s (Qb (F_ccopy s s_ i t j n)) := by
  unfold F_ccopy
  by_cases e0 : s_ = 0
  · rw [if_pos e0, e0]
    by_cases d0 : t = 0
    · rw [if_pos d0, d0]
      exact ux_ccopy_00 s i j n
    by_cases d1 : t = 1
    · rw [if_neg d0, if_pos d1, d1]
      exact ux_ccopy_01 s i j n
    by_cases d2 : t = 2
    · rw [if_neg d0, if_neg d1, if_pos d2, d2]
      exact ux_ccopy_02 s i j n
    by_cases d3 : t = 3
    · rw [if_neg d0, if_neg d1, if_neg d2, if_pos d3, d3]
      exact ux_ccopy_03 s i j n
    rw [if_neg d0, if_neg d1, if_neg d2, if_neg d3]
    have hb : bl t 4 = false := by
      cases q : bl t 4 with
      | false => rfl
      | true =>
        rcases bl_4.mp q with w | w | w | w
        · exact absurd w d0
        · exact absurd w d1
        · exact absurd w d2
        · exact absurd w d3
    have b1 : bl 0 4 = true := rfl
    refine UP.stp 2 (i1 := 2) (L1 := [some (.ref 0), some (.int 0), some (.int i), some (.int t), some (.int j), some (.int n), none, none]) (st1 := [.int 4, .int 0]) (s1 := s) rfl ?_
    refine UP.cI (M1 := m_X6_isBelow) (as := [.int 0, .int 4]) (rest := []) (T := F_isBelow s 0 4) rfl rfl (ux_isBelow s 0 4) ?_
    refine UP.ifF rfl (by rw [bl_e, b1]; rfl) ?_
    refine UP.stp 2 (i1 := 6) (L1 := [some (.ref 0), some (.int 0), some (.int i), some (.int t), some (.int j), some (.int n), none, none]) (st1 := [.int 4, .int t]) (s1 := s) rfl ?_
    refine UP.cI (M1 := m_X6_isBelow) (as := [.int t, .int 4]) (rest := []) (T := F_isBelow s t 4) rfl rfl (ux_isBelow s t 4) ?_
    refine UP.ifF rfl (by rw [bl_n, hb]) ?_
    refine UP.stp 1 (i1 := 9) (L1 := [some (.ref 0), some (.int 0), some (.int i), some (.int t), some (.int j), some (.int n), none, none]) (st1 := [.int (-2)]) (s1 := s) rfl ?_
    exact UP.ret (r := some (.int (-2))) rfl ⟨rfl, rfl⟩
  by_cases e1 : s_ = 1
  · rw [if_neg e0, if_pos e1, e1]
    by_cases d0 : t = 0
    · rw [if_pos d0, d0]
      exact ux_ccopy_10 s i j n
    by_cases d1 : t = 1
    · rw [if_neg d0, if_pos d1, d1]
      exact ux_ccopy_11 s i j n
    by_cases d2 : t = 2
    · rw [if_neg d0, if_neg d1, if_pos d2, d2]
      exact ux_ccopy_12 s i j n
    by_cases d3 : t = 3
    · rw [if_neg d0, if_neg d1, if_neg d2, if_pos d3, d3]
      exact ux_ccopy_13 s i j n
    rw [if_neg d0, if_neg d1, if_neg d2, if_neg d3]
    have hb : bl t 4 = false := by
      cases q : bl t 4 with
      | false => rfl
      | true =>
        rcases bl_4.mp q with w | w | w | w
        · exact absurd w d0
        · exact absurd w d1
        · exact absurd w d2
        · exact absurd w d3
    have b1 : bl 1 4 = true := rfl
    refine UP.stp 2 (i1 := 2) (L1 := [some (.ref 0), some (.int 1), some (.int i), some (.int t), some (.int j), some (.int n), none, none]) (st1 := [.int 4, .int 1]) (s1 := s) rfl ?_
    refine UP.cI (M1 := m_X6_isBelow) (as := [.int 1, .int 4]) (rest := []) (T := F_isBelow s 1 4) rfl rfl (ux_isBelow s 1 4) ?_
    refine UP.ifF rfl (by rw [bl_e, b1]; rfl) ?_
    refine UP.stp 2 (i1 := 6) (L1 := [some (.ref 0), some (.int 1), some (.int i), some (.int t), some (.int j), some (.int n), none, none]) (st1 := [.int 4, .int t]) (s1 := s) rfl ?_
    refine UP.cI (M1 := m_X6_isBelow) (as := [.int t, .int 4]) (rest := []) (T := F_isBelow s t 4) rfl rfl (ux_isBelow s t 4) ?_
    refine UP.ifF rfl (by rw [bl_n, hb]) ?_
    refine UP.stp 1 (i1 := 9) (L1 := [some (.ref 0), some (.int 1), some (.int i), some (.int t), some (.int j), some (.int n), none, none]) (st1 := [.int (-2)]) (s1 := s) rfl ?_
    exact UP.ret (r := some (.int (-2))) rfl ⟨rfl, rfl⟩
  by_cases e2 : s_ = 2
  · rw [if_neg e0, if_neg e1, if_pos e2, e2]
    by_cases d0 : t = 0
    · rw [if_pos d0, d0]
      exact ux_ccopy_20 s i j n
    by_cases d1 : t = 1
    · rw [if_neg d0, if_pos d1, d1]
      exact ux_ccopy_21 s i j n
    by_cases d2 : t = 2
    · rw [if_neg d0, if_neg d1, if_pos d2, d2]
      exact ux_ccopy_22 s i j n
    by_cases d3 : t = 3
    · rw [if_neg d0, if_neg d1, if_neg d2, if_pos d3, d3]
      exact ux_ccopy_23 s i j n
    rw [if_neg d0, if_neg d1, if_neg d2, if_neg d3]
    have hb : bl t 4 = false := by
      cases q : bl t 4 with
      | false => rfl
      | true =>
        rcases bl_4.mp q with w | w | w | w
        · exact absurd w d0
        · exact absurd w d1
        · exact absurd w d2
        · exact absurd w d3
    have b1 : bl 2 4 = true := rfl
    refine UP.stp 2 (i1 := 2) (L1 := [some (.ref 0), some (.int 2), some (.int i), some (.int t), some (.int j), some (.int n), none, none]) (st1 := [.int 4, .int 2]) (s1 := s) rfl ?_
    refine UP.cI (M1 := m_X6_isBelow) (as := [.int 2, .int 4]) (rest := []) (T := F_isBelow s 2 4) rfl rfl (ux_isBelow s 2 4) ?_
    refine UP.ifF rfl (by rw [bl_e, b1]; rfl) ?_
    refine UP.stp 2 (i1 := 6) (L1 := [some (.ref 0), some (.int 2), some (.int i), some (.int t), some (.int j), some (.int n), none, none]) (st1 := [.int 4, .int t]) (s1 := s) rfl ?_
    refine UP.cI (M1 := m_X6_isBelow) (as := [.int t, .int 4]) (rest := []) (T := F_isBelow s t 4) rfl rfl (ux_isBelow s t 4) ?_
    refine UP.ifF rfl (by rw [bl_n, hb]) ?_
    refine UP.stp 1 (i1 := 9) (L1 := [some (.ref 0), some (.int 2), some (.int i), some (.int t), some (.int j), some (.int n), none, none]) (st1 := [.int (-2)]) (s1 := s) rfl ?_
    exact UP.ret (r := some (.int (-2))) rfl ⟨rfl, rfl⟩
  by_cases e3 : s_ = 3
  · rw [if_neg e0, if_neg e1, if_neg e2, if_pos e3, e3]
    by_cases d0 : t = 0
    · rw [if_pos d0, d0]
      exact ux_ccopy_30 s i j n
    by_cases d1 : t = 1
    · rw [if_neg d0, if_pos d1, d1]
      exact ux_ccopy_31 s i j n
    by_cases d2 : t = 2
    · rw [if_neg d0, if_neg d1, if_pos d2, d2]
      exact ux_ccopy_32 s i j n
    by_cases d3 : t = 3
    · rw [if_neg d0, if_neg d1, if_neg d2, if_pos d3, d3]
      exact ux_ccopy_33 s i j n
    rw [if_neg d0, if_neg d1, if_neg d2, if_neg d3]
    have hb : bl t 4 = false := by
      cases q : bl t 4 with
      | false => rfl
      | true =>
        rcases bl_4.mp q with w | w | w | w
        · exact absurd w d0
        · exact absurd w d1
        · exact absurd w d2
        · exact absurd w d3
    have b1 : bl 3 4 = true := rfl
    refine UP.stp 2 (i1 := 2) (L1 := [some (.ref 0), some (.int 3), some (.int i), some (.int t), some (.int j), some (.int n), none, none]) (st1 := [.int 4, .int 3]) (s1 := s) rfl ?_
    refine UP.cI (M1 := m_X6_isBelow) (as := [.int 3, .int 4]) (rest := []) (T := F_isBelow s 3 4) rfl rfl (ux_isBelow s 3 4) ?_
    refine UP.ifF rfl (by rw [bl_e, b1]; rfl) ?_
    refine UP.stp 2 (i1 := 6) (L1 := [some (.ref 0), some (.int 3), some (.int i), some (.int t), some (.int j), some (.int n), none, none]) (st1 := [.int 4, .int t]) (s1 := s) rfl ?_
    refine UP.cI (M1 := m_X6_isBelow) (as := [.int t, .int 4]) (rest := []) (T := F_isBelow s t 4) rfl rfl (ux_isBelow s t 4) ?_
    refine UP.ifF rfl (by rw [bl_n, hb]) ?_
    refine UP.stp 1 (i1 := 9) (L1 := [some (.ref 0), some (.int 3), some (.int i), some (.int t), some (.int j), some (.int n), none, none]) (st1 := [.int (-2)]) (s1 := s) rfl ?_
    exact UP.ret (r := some (.int (-2))) rfl ⟨rfl, rfl⟩
  rw [if_neg e0, if_neg e1, if_neg e2, if_neg e3]
  have hb : bl s_ 4 = false := by
    cases q : bl s_ 4 with
    | false => rfl
    | true =>
      rcases bl_4.mp q with w | w | w | w
      · exact absurd w e0
      · exact absurd w e1
      · exact absurd w e2
      · exact absurd w e3
  refine UP.stp 2 (i1 := 2) (L1 := [some (.ref 0), some (.int s_), some (.int i), some (.int t), some (.int j), some (.int n), none, none]) (st1 := [.int 4, .int s_]) (s1 := s) rfl ?_
  refine UP.cI (M1 := m_X6_isBelow) (as := [.int s_, .int 4]) (rest := []) (T := F_isBelow s s_ 4) rfl rfl (ux_isBelow s s_ 4) ?_
  refine UP.ifT rfl (by rw [bl_e, hb]; rfl) ?_
  refine UP.stp 1 (i1 := 9) (L1 := [some (.ref 0), some (.int s_), some (.int i), some (.int t), some (.int j), some (.int n), none, none]) (st1 := [.int (-2)]) (s1 := s) rfl ?_
  exact UP.ret (r := some (.int (-2))) rfl ⟨rfl, rfl⟩
theorem cs_ccopy (s : SG) (s_ i t j n : Int32) : F_ccopy s s_ i t j n = bif bl s_ 4 then (bif bl t 4 then G_ccopy s_.toNatClampNeg t.toNatClampNeg s i j n else ((-2), s)) else ((-2), s) := by
  unfold F_ccopy
  by_cases e0 : s_ = 0
  · rw [if_pos e0, e0]
    by_cases d0 : t = 0
    · rw [if_pos d0, d0, gl_ccopy_00, show bl 0 4 = true from rfl, show (0 : Int32).toNatClampNeg = 0 from rfl, cT, cT]
    by_cases d1 : t = 1
    · rw [if_neg d0, if_pos d1, d1, gl_ccopy_01, show bl 0 4 = true from rfl, show (0 : Int32).toNatClampNeg = 0 from rfl, show bl 1 4 = true from rfl, show (1 : Int32).toNatClampNeg = 1 from rfl, cT, cT]
    by_cases d2 : t = 2
    · rw [if_neg d0, if_neg d1, if_pos d2, d2, gl_ccopy_02, show bl 0 4 = true from rfl, show (0 : Int32).toNatClampNeg = 0 from rfl, show bl 2 4 = true from rfl, show (2 : Int32).toNatClampNeg = 2 from rfl, cT, cT]
    by_cases d3 : t = 3
    · rw [if_neg d0, if_neg d1, if_neg d2, if_pos d3, d3, gl_ccopy_03, show bl 0 4 = true from rfl, show (0 : Int32).toNatClampNeg = 0 from rfl, show bl 3 4 = true from rfl, show (3 : Int32).toNatClampNeg = 3 from rfl, cT, cT]
    rw [if_neg d0, if_neg d1, if_neg d2, if_neg d3]
    have hb : bl t 4 = false := by
      cases q : bl t 4 with
      | false => rfl
      | true =>
        rcases bl_4.mp q with w | w | w | w
        · exact absurd w d0
        · exact absurd w d1
        · exact absurd w d2
        · exact absurd w d3
    rw [hb]
    rfl
  by_cases e1 : s_ = 1
  · rw [if_neg e0, if_pos e1, e1]
    by_cases d0 : t = 0
    · rw [if_pos d0, d0, gl_ccopy_10, show bl 1 4 = true from rfl, show (1 : Int32).toNatClampNeg = 1 from rfl, show bl 0 4 = true from rfl, show (0 : Int32).toNatClampNeg = 0 from rfl, cT, cT]
    by_cases d1 : t = 1
    · rw [if_neg d0, if_pos d1, d1, gl_ccopy_11, show bl 1 4 = true from rfl, show (1 : Int32).toNatClampNeg = 1 from rfl, cT, cT]
    by_cases d2 : t = 2
    · rw [if_neg d0, if_neg d1, if_pos d2, d2, gl_ccopy_12, show bl 1 4 = true from rfl, show (1 : Int32).toNatClampNeg = 1 from rfl, show bl 2 4 = true from rfl, show (2 : Int32).toNatClampNeg = 2 from rfl, cT, cT]
    by_cases d3 : t = 3
    · rw [if_neg d0, if_neg d1, if_neg d2, if_pos d3, d3, gl_ccopy_13, show bl 1 4 = true from rfl, show (1 : Int32).toNatClampNeg = 1 from rfl, show bl 3 4 = true from rfl, show (3 : Int32).toNatClampNeg = 3 from rfl, cT, cT]
    rw [if_neg d0, if_neg d1, if_neg d2, if_neg d3]
    have hb : bl t 4 = false := by
      cases q : bl t 4 with
      | false => rfl
      | true =>
        rcases bl_4.mp q with w | w | w | w
        · exact absurd w d0
        · exact absurd w d1
        · exact absurd w d2
        · exact absurd w d3
    rw [hb]
    rfl
  by_cases e2 : s_ = 2
  · rw [if_neg e0, if_neg e1, if_pos e2, e2]
    by_cases d0 : t = 0
    · rw [if_pos d0, d0, gl_ccopy_20, show bl 2 4 = true from rfl, show (2 : Int32).toNatClampNeg = 2 from rfl, show bl 0 4 = true from rfl, show (0 : Int32).toNatClampNeg = 0 from rfl, cT, cT]
    by_cases d1 : t = 1
    · rw [if_neg d0, if_pos d1, d1, gl_ccopy_21, show bl 2 4 = true from rfl, show (2 : Int32).toNatClampNeg = 2 from rfl, show bl 1 4 = true from rfl, show (1 : Int32).toNatClampNeg = 1 from rfl, cT, cT]
    by_cases d2 : t = 2
    · rw [if_neg d0, if_neg d1, if_pos d2, d2, gl_ccopy_22, show bl 2 4 = true from rfl, show (2 : Int32).toNatClampNeg = 2 from rfl, cT, cT]
    by_cases d3 : t = 3
    · rw [if_neg d0, if_neg d1, if_neg d2, if_pos d3, d3, gl_ccopy_23, show bl 2 4 = true from rfl, show (2 : Int32).toNatClampNeg = 2 from rfl, show bl 3 4 = true from rfl, show (3 : Int32).toNatClampNeg = 3 from rfl, cT, cT]
    rw [if_neg d0, if_neg d1, if_neg d2, if_neg d3]
    have hb : bl t 4 = false := by
      cases q : bl t 4 with
      | false => rfl
      | true =>
        rcases bl_4.mp q with w | w | w | w
        · exact absurd w d0
        · exact absurd w d1
        · exact absurd w d2
        · exact absurd w d3
    rw [hb]
    rfl
  by_cases e3 : s_ = 3
  · rw [if_neg e0, if_neg e1, if_neg e2, if_pos e3, e3]
    by_cases d0 : t = 0
    · rw [if_pos d0, d0, gl_ccopy_30, show bl 3 4 = true from rfl, show (3 : Int32).toNatClampNeg = 3 from rfl, show bl 0 4 = true from rfl, show (0 : Int32).toNatClampNeg = 0 from rfl, cT, cT]
    by_cases d1 : t = 1
    · rw [if_neg d0, if_pos d1, d1, gl_ccopy_31, show bl 3 4 = true from rfl, show (3 : Int32).toNatClampNeg = 3 from rfl, show bl 1 4 = true from rfl, show (1 : Int32).toNatClampNeg = 1 from rfl, cT, cT]
    by_cases d2 : t = 2
    · rw [if_neg d0, if_neg d1, if_pos d2, d2, gl_ccopy_32, show bl 3 4 = true from rfl, show (3 : Int32).toNatClampNeg = 3 from rfl, show bl 2 4 = true from rfl, show (2 : Int32).toNatClampNeg = 2 from rfl, cT, cT]
    by_cases d3 : t = 3
    · rw [if_neg d0, if_neg d1, if_neg d2, if_pos d3, d3, gl_ccopy_33, show bl 3 4 = true from rfl, show (3 : Int32).toNatClampNeg = 3 from rfl, cT, cT]
    rw [if_neg d0, if_neg d1, if_neg d2, if_neg d3]
    have hb : bl t 4 = false := by
      cases q : bl t 4 with
      | false => rfl
      | true =>
        rcases bl_4.mp q with w | w | w | w
        · exact absurd w d0
        · exact absurd w d1
        · exact absurd w d2
        · exact absurd w d3
    rw [hb]
    rfl
  rw [if_neg e0, if_neg e1, if_neg e2, if_neg e3]
  have hb : bl s_ 4 = false := by
    cases q : bl s_ 4 with
    | false => rfl
    | true =>
      rcases bl_4.mp q with w | w | w | w
      · exact absurd w e0
      · exact absurd w e1
      · exact absurd w e2
      · exact absurd w e3
  rw [hb]
  rfl
