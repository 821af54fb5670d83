/-! sheets: the class's calls, whatever the number (printed by wip/u/mk_sh.py) -/
def G_fo (q : Nat) (s : SG) (form i : Int32) : Int32 := bif m_cmp .eq (s (115 + 2 * q) 1) 0 then (bif m_cmp .eq (s (115 + 2 * q) 2) form then (bif m_cmp .eq (F_isBelow s i (s (115 + 2 * q) 3)) 0 then (2 : Int32) else (0 : Int32)) else (3)) else (1)
def cvF (form v : Int32) : Int32 := bif m_cmp .ne form 0 then (bif m_cmp .ne form 1 then v else v.toInt16.toInt32) else v.toInt8.toInt32
def G_csheet (q : Nat) (s : SG) (form n : Int32) : Int32 × SG := bif bl form 3 then (bif m_cmp .le n 60 then (bif m_cmp .ge n 0 then (n, uset (uset (uset (fil s (116 + 2 * q) 60 0) (115 + 2 * q) 1 0) (115 + 2 * q) 2 form) (115 + 2 * q) 3 n) else F_find s 5) else ((-2), s)) else ((-2), s)
def G_close (q : Nat) (s : SG)  : Int32 × SG := bif m_cmp .eq (s (115 + 2 * q) 1) 0 then (s (115 + 2 * q) 3, uset s (115 + 2 * q) 1 1) else F_find s 1
def G_cput (q : Nat) (s : SG) (form i v : Int32) : Int32 × SG := bif bl form 3 then (bif m_cmp .eq (G_fo q s form i) 0 then (1, uset s (116 + 2 * q) i.toNatClampNeg (cvF (s (115 + 2 * q) 2) v)) else F_find s (G_fo q s form i)) else ((-2), s)
def G_cget (q : Nat) (s : SG) (form i : Int32) : Int32 × SG := bif bl form 3 then (bif m_cmp .eq (G_fo q s form i) 0 then (s (116 + 2 * q) i.toNatClampNeg, s) else ((-2147483648), uset s 0 4 (G_fo q s form i))) else ((-2147483648), s)
def G_cwrite (q : Nat) (s : SG) (what : Int32) : Int32 × SG := bif bl what 2 then (bif m_cmp .eq (s (115 + 2 * q) 1) 0 then ((if 24 < F_toldTrip s (115 + 2 * q) 3 then 24 else F_toldTrip s (115 + 2 * q) 3), itr (fun i a => uset a (116 + 2 * q) (Int32.ofNat i).toNatClampNeg (cvF (a (115 + 2 * q) 2) (bif m_cmp .ne what 0 then a 17 i else a 16 i))) 0 (if 24 < F_toldTrip s (115 + 2 * q) 3 then 24 else F_toldTrip s (115 + 2 * q) 3).toNatClampNeg (F_toldTrip s)) else F_find s 1) else ((-2), s)
def F_csheet (s : SG) (s_ : Int32) (form : Int32) (n : Int32) : Int32 × SG := if s_ = 0 then F_csheet_0 s form n else if s_ = 1 then F_csheet_1 s form n else if s_ = 2 then F_csheet_2 s form n else if s_ = 3 then F_csheet_3 s form n else ((-2), s)
theorem ux_csheet (s : SG) (s_ : Int32) (form : Int32) (n : Int32) : UP m_X6_sheet 0 (m_ent 4 [.ref 0, .int s_, .int form, .int n]) [] s (Qb (F_csheet s s_ form n)) := by
  unfold F_csheet
  by_cases e0 : s_ = 0
  · rw [if_pos e0, e0]
    exact ux_csheet_0 s form n
  by_cases e1 : s_ = 1
  · rw [if_neg e0, if_pos e1, e1]
    exact ux_csheet_1 s form n
  by_cases e2 : s_ = 2
  · rw [if_neg e0, if_neg e1, if_pos e2, e2]
    exact ux_csheet_2 s form n
  by_cases e3 : s_ = 3
  · rw [if_neg e0, if_neg e1, if_neg e2, if_pos e3, e3]
    exact ux_csheet_3 s form n
  rw [if_neg e0, if_neg e1, if_neg e2, if_neg e3]
  have hb : bl s_ 4 = false := by
    cases q : bl s_ 4 with
    | false => rfl
    | true =>
      rcases bl_4.mp q with w | w | w | w
      · exact absurd w e0
      · exact absurd w e1
      · exact absurd w e2
      · exact absurd w e3
  refine UP.stp 2 (i1 := 2) (L1 := [some (.ref 0), some (.int s_), some (.int form), some (.int n)]) (st1 := [.int 4, .int s_]) (s1 := s) rfl ?_
  refine UP.cI (M1 := m_X6_isBelow) (as := [.int s_, .int 4]) (rest := []) (T := F_isBelow s s_ 4) rfl rfl (ux_isBelow s s_ 4) ?_
  refine UP.ifT rfl (by rw [bl_e, hb]; rfl) ?_
  refine UP.stp 1 (i1 := 12) (L1 := [some (.ref 0), some (.int s_), some (.int form), some (.int n)]) (st1 := [.int (-2)]) (s1 := s) rfl ?_
  exact UP.ret (r := some (.int (-2))) rfl ⟨rfl, rfl⟩
theorem gl_csheet_0 (s : SG) (form n : Int32) : F_csheet_0 s form n = G_csheet 0 s form n := by
  have e1 : m_cmp .eq (F_isBelow s 0 4) 0 = false := rfl
  dsimp only [F_csheet_0, G_csheet]
  rw [e1, bl_e]
  cases bl form 3 <;> rfl
theorem gl_csheet_1 (s : SG) (form n : Int32) : F_csheet_1 s form n = G_csheet 1 s form n := by
  have e1 : m_cmp .eq (F_isBelow s 1 4) 0 = false := rfl
  dsimp only [F_csheet_1, G_csheet]
  rw [e1, bl_e]
  cases bl form 3 <;> rfl
theorem gl_csheet_2 (s : SG) (form n : Int32) : F_csheet_2 s form n = G_csheet 2 s form n := by
  have e1 : m_cmp .eq (F_isBelow s 2 4) 0 = false := rfl
  dsimp only [F_csheet_2, G_csheet]
  rw [e1, bl_e]
  cases bl form 3 <;> rfl
theorem gl_csheet_3 (s : SG) (form n : Int32) : F_csheet_3 s form n = G_csheet 3 s form n := by
  have e1 : m_cmp .eq (F_isBelow s 3 4) 0 = false := rfl
  dsimp only [F_csheet_3, G_csheet]
  rw [e1, bl_e]
  cases bl form 3 <;> rfl
theorem cs_csheet (s : SG) (s_ : Int32) (form : Int32) (n : Int32) : F_csheet s s_ form n = bif bl s_ 4 then G_csheet s_.toNatClampNeg s form n else ((-2), s) := by
  unfold F_csheet
  by_cases e0 : s_ = 0
  · rw [if_pos e0, e0, gl_csheet_0, show bl 0 4 = true from rfl, show (0 : Int32).toNatClampNeg = 0 from rfl, cT]
  by_cases e1 : s_ = 1
  · rw [if_neg e0, if_pos e1, e1, gl_csheet_1, show bl 1 4 = true from rfl, show (1 : Int32).toNatClampNeg = 1 from rfl, cT]
  by_cases e2 : s_ = 2
  · rw [if_neg e0, if_neg e1, if_pos e2, e2, gl_csheet_2, show bl 2 4 = true from rfl, show (2 : Int32).toNatClampNeg = 2 from rfl, cT]
  by_cases e3 : s_ = 3
  · rw [if_neg e0, if_neg e1, if_neg e2, if_pos e3, e3, gl_csheet_3, show bl 3 4 = true from rfl, show (3 : Int32).toNatClampNeg = 3 from rfl, cT]
  rw [if_neg e0, if_neg e1, if_neg e2, if_neg e3]
  have hb : bl s_ 4 = false := by
    cases q : bl s_ 4 with
    | false => rfl
    | true =>
      rcases bl_4.mp q with w | w | w | w
      · exact absurd w e0
      · exact absurd w e1
      · exact absurd w e2
      · exact absurd w e3
  rw [hb]
  rfl
def F_close (s : SG) (s_ : Int32) : Int32 × SG := if s_ = 0 then F_close_0 s  else if s_ = 1 then F_close_1 s  else if s_ = 2 then F_close_2 s  else if s_ = 3 then F_close_3 s  else ((-2), s)
theorem ux_close (s : SG) (s_ : Int32) : UP m_X6_lose 0 (m_ent 2 [.ref 0, .int s_]) [] s (Qb (F_close s s_)) := by
  unfold F_close
  by_cases e0 : s_ = 0
  · rw [if_pos e0, e0]
    exact ux_close_0 s 
  by_cases e1 : s_ = 1
  · rw [if_neg e0, if_pos e1, e1]
    exact ux_close_1 s 
  by_cases e2 : s_ = 2
  · rw [if_neg e0, if_neg e1, if_pos e2, e2]
    exact ux_close_2 s 
  by_cases e3 : s_ = 3
  · rw [if_neg e0, if_neg e1, if_neg e2, if_pos e3, e3]
    exact ux_close_3 s 
  rw [if_neg e0, if_neg e1, if_neg e2, if_neg e3]
  have hb : bl s_ 4 = false := by
    cases q : bl s_ 4 with
    | false => rfl
    | true =>
      rcases bl_4.mp q with w | w | w | w
      · exact absurd w e0
      · exact absurd w e1
      · exact absurd w e2
      · exact absurd w e3
  refine UP.stp 2 (i1 := 2) (L1 := [some (.ref 0), some (.int s_)]) (st1 := [.int 4, .int s_]) (s1 := s) rfl ?_
  refine UP.cI (M1 := m_X6_isBelow) (as := [.int s_, .int 4]) (rest := []) (T := F_isBelow s s_ 4) rfl rfl (ux_isBelow s s_ 4) ?_
  refine UP.ifF rfl (by rw [bl_n, hb]) ?_
  refine UP.stp 1 (i1 := 5) (L1 := [some (.ref 0), some (.int s_)]) (st1 := [.int (-2)]) (s1 := s) rfl ?_
  exact UP.ret (r := some (.int (-2))) rfl ⟨rfl, rfl⟩
theorem gl_close_0 (s : SG)  : F_close_0 s  = G_close 0 s  := by
  have e1 : m_cmp .ne (F_isBelow s 0 4) 0 = true := rfl
  dsimp only [F_close_0, G_close]
  rw [e1]
  rfl
theorem gl_close_1 (s : SG)  : F_close_1 s  = G_close 1 s  := by
  have e1 : m_cmp .ne (F_isBelow s 1 4) 0 = true := rfl
  dsimp only [F_close_1, G_close]
  rw [e1]
  rfl
theorem gl_close_2 (s : SG)  : F_close_2 s  = G_close 2 s  := by
  have e1 : m_cmp .ne (F_isBelow s 2 4) 0 = true := rfl
  dsimp only [F_close_2, G_close]
  rw [e1]
  rfl
theorem gl_close_3 (s : SG)  : F_close_3 s  = G_close 3 s  := by
  have e1 : m_cmp .ne (F_isBelow s 3 4) 0 = true := rfl
  dsimp only [F_close_3, G_close]
  rw [e1]
  rfl
theorem cs_close (s : SG) (s_ : Int32) : F_close s s_ = bif bl s_ 4 then G_close s_.toNatClampNeg s  else ((-2), s) := by
  unfold F_close
  by_cases e0 : s_ = 0
  · rw [if_pos e0, e0, gl_close_0, show bl 0 4 = true from rfl, show (0 : Int32).toNatClampNeg = 0 from rfl, cT]
  by_cases e1 : s_ = 1
  · rw [if_neg e0, if_pos e1, e1, gl_close_1, show bl 1 4 = true from rfl, show (1 : Int32).toNatClampNeg = 1 from rfl, cT]
  by_cases e2 : s_ = 2
  · rw [if_neg e0, if_neg e1, if_pos e2, e2, gl_close_2, show bl 2 4 = true from rfl, show (2 : Int32).toNatClampNeg = 2 from rfl, cT]
  by_cases e3 : s_ = 3
  · rw [if_neg e0, if_neg e1, if_neg e2, if_pos e3, e3, gl_close_3, show bl 3 4 = true from rfl, show (3 : Int32).toNatClampNeg = 3 from rfl, cT]
  rw [if_neg e0, if_neg e1, if_neg e2, if_neg e3]
  have hb : bl s_ 4 = false := by
    cases q : bl s_ 4 with
    | false => rfl
    | true =>
      rcases bl_4.mp q with w | w | w | w
      · exact absurd w e0
      · exact absurd w e1
      · exact absurd w e2
      · exact absurd w e3
  rw [hb]
  rfl
def F_cput (s : SG) (s_ : Int32) (form : Int32) (i : Int32) (v : Int32) : Int32 × SG := if s_ = 0 then F_cput_0 s form i v else if s_ = 1 then F_cput_1 s form i v else if s_ = 2 then F_cput_2 s form i v else if s_ = 3 then F_cput_3 s form i v else ((-2), s)
theorem ux_cput (s : SG) (s_ : Int32) (form : Int32) (i : Int32) (v : Int32) : UP m_X6_put 0 (m_ent 6 [.ref 0, .int s_, .int form, .int i, .int v]) [] s (Qb (F_cput s s_ form i v)) := by
  unfold F_cput
  by_cases e0 : s_ = 0
  · rw [if_pos e0, e0]
    exact ux_cput_0 s form i v
  by_cases e1 : s_ = 1
  · rw [if_neg e0, if_pos e1, e1]
    exact ux_cput_1 s form i v
  by_cases e2 : s_ = 2
  · rw [if_neg e0, if_neg e1, if_pos e2, e2]
    exact ux_cput_2 s form i v
  by_cases e3 : s_ = 3
  · rw [if_neg e0, if_neg e1, if_neg e2, if_pos e3, e3]
    exact ux_cput_3 s form i v
  rw [if_neg e0, if_neg e1, if_neg e2, if_neg e3]
  have hb : bl s_ 4 = false := by
    cases q : bl s_ 4 with
    | false => rfl
    | true =>
      rcases bl_4.mp q with w | w | w | w
      · exact absurd w e0
      · exact absurd w e1
      · exact absurd w e2
      · exact absurd w e3
  refine UP.stp 2 (i1 := 2) (L1 := [some (.ref 0), some (.int s_), some (.int form), some (.int i), some (.int v), none]) (st1 := [.int 4, .int s_]) (s1 := s) rfl ?_
  refine UP.cI (M1 := m_X6_isBelow) (as := [.int s_, .int 4]) (rest := []) (T := F_isBelow s s_ 4) rfl rfl (ux_isBelow s s_ 4) ?_
  refine UP.ifT rfl (by rw [bl_e, hb]; rfl) ?_
  refine UP.stp 1 (i1 := 9) (L1 := [some (.ref 0), some (.int s_), some (.int form), some (.int i), some (.int v), none]) (st1 := [.int (-2)]) (s1 := s) rfl ?_
  exact UP.ret (r := some (.int (-2))) rfl ⟨rfl, rfl⟩
theorem gl_cput_0 (s : SG) (form i v : Int32) : F_cput_0 s form i v = G_cput 0 s form i v := by
  have e1 : m_cmp .eq (F_isBelow s 0 4) 0 = false := rfl
  have e2 : F_findingOf_0 s form i = G_fo 0 s form i := rfl
  dsimp only [F_cput_0, G_cput]
  rw [e1, bl_n, e2]
  rfl
theorem gl_cput_1 (s : SG) (form i v : Int32) : F_cput_1 s form i v = G_cput 1 s form i v := by
  have e1 : m_cmp .eq (F_isBelow s 1 4) 0 = false := rfl
  have e2 : F_findingOf_1 s form i = G_fo 1 s form i := rfl
  dsimp only [F_cput_1, G_cput]
  rw [e1, bl_n, e2]
  rfl
theorem gl_cput_2 (s : SG) (form i v : Int32) : F_cput_2 s form i v = G_cput 2 s form i v := by
  have e1 : m_cmp .eq (F_isBelow s 2 4) 0 = false := rfl
  have e2 : F_findingOf_2 s form i = G_fo 2 s form i := rfl
  dsimp only [F_cput_2, G_cput]
  rw [e1, bl_n, e2]
  rfl
theorem gl_cput_3 (s : SG) (form i v : Int32) : F_cput_3 s form i v = G_cput 3 s form i v := by
  have e1 : m_cmp .eq (F_isBelow s 3 4) 0 = false := rfl
  have e2 : F_findingOf_3 s form i = G_fo 3 s form i := rfl
  dsimp only [F_cput_3, G_cput]
  rw [e1, bl_n, e2]
  rfl
theorem cs_cput (s : SG) (s_ : Int32) (form : Int32) (i : Int32) (v : Int32) : F_cput s s_ form i v = bif bl s_ 4 then G_cput s_.toNatClampNeg s form i v else ((-2), s) := by
  unfold F_cput
  by_cases e0 : s_ = 0
  · rw [if_pos e0, e0, gl_cput_0, show bl 0 4 = true from rfl, show (0 : Int32).toNatClampNeg = 0 from rfl, cT]
  by_cases e1 : s_ = 1
  · rw [if_neg e0, if_pos e1, e1, gl_cput_1, show bl 1 4 = true from rfl, show (1 : Int32).toNatClampNeg = 1 from rfl, cT]
  by_cases e2 : s_ = 2
  · rw [if_neg e0, if_neg e1, if_pos e2, e2, gl_cput_2, show bl 2 4 = true from rfl, show (2 : Int32).toNatClampNeg = 2 from rfl, cT]
  by_cases e3 : s_ = 3
  · rw [if_neg e0, if_neg e1, if_neg e2, if_pos e3, e3, gl_cput_3, show bl 3 4 = true from rfl, show (3 : Int32).toNatClampNeg = 3 from rfl, cT]
  rw [if_neg e0, if_neg e1, if_neg e2, if_neg e3]
  have hb : bl s_ 4 = false := by
    cases q : bl s_ 4 with
    | false => rfl
    | true =>
      rcases bl_4.mp q with w | w | w | w
      · exact absurd w e0
      · exact absurd w e1
      · exact absurd w e2
      · exact absurd w e3
  rw [hb]
  rfl
def F_cget (s : SG) (s_ : Int32) (form : Int32) (i : Int32) : Int32 × SG := if s_ = 0 then F_cget_0 s form i else if s_ = 1 then F_cget_1 s form i else if s_ = 2 then F_cget_2 s form i else if s_ = 3 then F_cget_3 s form i else ((-2147483648), s)
theorem ux_cget (s : SG) (s_ : Int32) (form : Int32) (i : Int32) : UP m_X6_get 0 (m_ent 5 [.ref 0, .int s_, .int form, .int i]) [] s (Qb (F_cget s s_ form i)) := by
  unfold F_cget
  by_cases e0 : s_ = 0
  · rw [if_pos e0, e0]
    exact ux_cget_0 s form i
  by_cases e1 : s_ = 1
  · rw [if_neg e0, if_pos e1, e1]
    exact ux_cget_1 s form i
  by_cases e2 : s_ = 2
  · rw [if_neg e0, if_neg e1, if_pos e2, e2]
    exact ux_cget_2 s form i
  by_cases e3 : s_ = 3
  · rw [if_neg e0, if_neg e1, if_neg e2, if_pos e3, e3]
    exact ux_cget_3 s form i
  rw [if_neg e0, if_neg e1, if_neg e2, if_neg e3]
  have hb : bl s_ 4 = false := by
    cases q : bl s_ 4 with
    | false => rfl
    | true =>
      rcases bl_4.mp q with w | w | w | w
      · exact absurd w e0
      · exact absurd w e1
      · exact absurd w e2
      · exact absurd w e3
  refine UP.stp 2 (i1 := 2) (L1 := [some (.ref 0), some (.int s_), some (.int form), some (.int i), none]) (st1 := [.int 4, .int s_]) (s1 := s) rfl ?_
  refine UP.cI (M1 := m_X6_isBelow) (as := [.int s_, .int 4]) (rest := []) (T := F_isBelow s s_ 4) rfl rfl (ux_isBelow s s_ 4) ?_
  refine UP.ifT rfl (by rw [bl_e, hb]; rfl) ?_
  refine UP.stp 1 (i1 := 9) (L1 := [some (.ref 0), some (.int s_), some (.int form), some (.int i), none]) (st1 := [.int (-2147483648)]) (s1 := s) rfl ?_
  exact UP.ret (r := some (.int (-2147483648))) rfl ⟨rfl, rfl⟩
theorem gl_cget_0 (s : SG) (form i : Int32) : F_cget_0 s form i = G_cget 0 s form i := by
  have e1 : m_cmp .eq (F_isBelow s 0 4) 0 = false := rfl
  have e2 : F_findingOf_0 s form i = G_fo 0 s form i := rfl
  dsimp only [F_cget_0, G_cget]
  rw [e1, bl_n, e2]
  rfl
theorem gl_cget_1 (s : SG) (form i : Int32) : F_cget_1 s form i = G_cget 1 s form i := by
  have e1 : m_cmp .eq (F_isBelow s 1 4) 0 = false := rfl
  have e2 : F_findingOf_1 s form i = G_fo 1 s form i := rfl
  dsimp only [F_cget_1, G_cget]
  rw [e1, bl_n, e2]
  rfl
theorem gl_cget_2 (s : SG) (form i : Int32) : F_cget_2 s form i = G_cget 2 s form i := by
  have e1 : m_cmp .eq (F_isBelow s 2 4) 0 = false := rfl
  have e2 : F_findingOf_2 s form i = G_fo 2 s form i := rfl
  dsimp only [F_cget_2, G_cget]
  rw [e1, bl_n, e2]
  rfl
theorem gl_cget_3 (s : SG) (form i : Int32) : F_cget_3 s form i = G_cget 3 s form i := by
  have e1 : m_cmp .eq (F_isBelow s 3 4) 0 = false := rfl
  have e2 : F_findingOf_3 s form i = G_fo 3 s form i := rfl
  dsimp only [F_cget_3, G_cget]
  rw [e1, bl_n, e2]
  rfl
theorem cs_cget (s : SG) (s_ : Int32) (form : Int32) (i : Int32) : F_cget s s_ form i = bif bl s_ 4 then G_cget s_.toNatClampNeg s form i else ((-2147483648), s) := by
  unfold F_cget
  by_cases e0 : s_ = 0
  · rw [if_pos e0, e0, gl_cget_0, show bl 0 4 = true from rfl, show (0 : Int32).toNatClampNeg = 0 from rfl, cT]
  by_cases e1 : s_ = 1
  · rw [if_neg e0, if_pos e1, e1, gl_cget_1, show bl 1 4 = true from rfl, show (1 : Int32).toNatClampNeg = 1 from rfl, cT]
  by_cases e2 : s_ = 2
  · rw [if_neg e0, if_neg e1, if_pos e2, e2, gl_cget_2, show bl 2 4 = true from rfl, show (2 : Int32).toNatClampNeg = 2 from rfl, cT]
  by_cases e3 : s_ = 3
  · rw [if_neg e0, if_neg e1, if_neg e2, if_pos e3, e3, gl_cget_3, show bl 3 4 = true from rfl, show (3 : Int32).toNatClampNeg = 3 from rfl, cT]
  rw [if_neg e0, if_neg e1, if_neg e2, if_neg e3]
  have hb : bl s_ 4 = false := by
    cases q : bl s_ 4 with
    | false => rfl
    | true =>
      rcases bl_4.mp q with w | w | w | w
      · exact absurd w e0
      · exact absurd w e1
      · exact absurd w e2
      · exact absurd w e3
  rw [hb]
  rfl
def F_cwrite (s : SG) (what : Int32) (s_ : Int32) : Int32 × SG := if s_ = 0 then F_cwrite_0 s what else if s_ = 1 then F_cwrite_1 s what else if s_ = 2 then F_cwrite_2 s what else if s_ = 3 then F_cwrite_3 s what else ((-2), s)
theorem ux_cwrite (s : SG) (what : Int32) (s_ : Int32) : UP m_X6_write 0 (m_ent 7 [.ref 0, .int what, .int s_]) [] s (Qb (F_cwrite s what s_)) := by
  unfold F_cwrite
  by_cases e0 : s_ = 0
  · rw [if_pos e0, e0]
    exact ux_cwrite_0 s what
  by_cases e1 : s_ = 1
  · rw [if_neg e0, if_pos e1, e1]
    exact ux_cwrite_1 s what
  by_cases e2 : s_ = 2
  · rw [if_neg e0, if_neg e1, if_pos e2, e2]
    exact ux_cwrite_2 s what
  by_cases e3 : s_ = 3
  · rw [if_neg e0, if_neg e1, if_neg e2, if_pos e3, e3]
    exact ux_cwrite_3 s what
  rw [if_neg e0, if_neg e1, if_neg e2, if_neg e3]
  have hb : bl s_ 4 = false := by
    cases q : bl s_ 4 with
    | false => rfl
    | true =>
      rcases bl_4.mp q with w | w | w | w
      · exact absurd w e0
      · exact absurd w e1
      · exact absurd w e2
      · exact absurd w e3
  cases b1 : bl what 2 with
  | false =>
    refine UP.stp 2 (i1 := 2) (L1 := [some (.ref 0), some (.int what), some (.int s_), none, none, none, none]) (st1 := [.int 2, .int what]) (s1 := s) rfl ?_
    refine UP.cI (M1 := m_X6_isBelow) (as := [.int what, .int 2]) (rest := []) (T := F_isBelow s what 2) rfl rfl (ux_isBelow s what 2) ?_
    refine UP.ifT rfl (by rw [bl_e, b1]; rfl) ?_
    refine UP.stp 1 (i1 := 9) (L1 := [some (.ref 0), some (.int what), some (.int s_), none, none, none, none]) (st1 := [.int (-2)]) (s1 := s) rfl ?_
    exact UP.ret (r := some (.int (-2))) rfl ⟨rfl, rfl⟩
  | true =>
    refine UP.stp 2 (i1 := 2) (L1 := [some (.ref 0), some (.int what), some (.int s_), none, none, none, none]) (st1 := [.int 2, .int what]) (s1 := s) rfl ?_
    refine UP.cI (M1 := m_X6_isBelow) (as := [.int what, .int 2]) (rest := []) (T := F_isBelow s what 2) rfl rfl (ux_isBelow s what 2) ?_
    refine UP.ifF rfl (by rw [bl_e, b1]; rfl) ?_
    refine UP.stp 2 (i1 := 6) (L1 := [some (.ref 0), some (.int what), some (.int s_), none, none, none, none]) (st1 := [.int 4, .int s_]) (s1 := s) rfl ?_
    refine UP.cI (M1 := m_X6_isBelow) (as := [.int s_, .int 4]) (rest := []) (T := F_isBelow s s_ 4) rfl rfl (ux_isBelow s s_ 4) ?_
    refine UP.ifF rfl (by rw [bl_n, hb]) ?_
    refine UP.stp 1 (i1 := 9) (L1 := [some (.ref 0), some (.int what), some (.int s_), none, none, none, none]) (st1 := [.int (-2)]) (s1 := s) rfl ?_
    exact UP.ret (r := some (.int (-2))) rfl ⟨rfl, rfl⟩
theorem gl_cwrite_0 (s : SG) (what : Int32) : F_cwrite_0 s what = G_cwrite 0 s what := by
  have e1 : m_cmp .ne (F_isBelow s 0 4) 0 = true := rfl
  have e2 : B_cwrite_0_32 what = fun i a => uset a (116 + 2 * 0) (Int32.ofNat i).toNatClampNeg (cvF (a (115 + 2 * 0) 2) (bif m_cmp .ne what 0 then a 17 i else a 16 i)) := rfl
  dsimp only [F_cwrite_0, G_cwrite]
  rw [e1, bl_e, e2]
  cases bl what 2 <;> rfl
theorem gl_cwrite_1 (s : SG) (what : Int32) : F_cwrite_1 s what = G_cwrite 1 s what := by
  have e1 : m_cmp .ne (F_isBelow s 1 4) 0 = true := rfl
  have e2 : B_cwrite_1_32 what = fun i a => uset a (116 + 2 * 1) (Int32.ofNat i).toNatClampNeg (cvF (a (115 + 2 * 1) 2) (bif m_cmp .ne what 0 then a 17 i else a 16 i)) := rfl
  dsimp only [F_cwrite_1, G_cwrite]
  rw [e1, bl_e, e2]
  cases bl what 2 <;> rfl
theorem gl_cwrite_2 (s : SG) (what : Int32) : F_cwrite_2 s what = G_cwrite 2 s what := by
  have e1 : m_cmp .ne (F_isBelow s 2 4) 0 = true := rfl
  have e2 : B_cwrite_2_32 what = fun i a => uset a (116 + 2 * 2) (Int32.ofNat i).toNatClampNeg (cvF (a (115 + 2 * 2) 2) (bif m_cmp .ne what 0 then a 17 i else a 16 i)) := rfl
  dsimp only [F_cwrite_2, G_cwrite]
  rw [e1, bl_e, e2]
  cases bl what 2 <;> rfl
theorem gl_cwrite_3 (s : SG) (what : Int32) : F_cwrite_3 s what = G_cwrite 3 s what := by
  have e1 : m_cmp .ne (F_isBelow s 3 4) 0 = true := rfl
  have e2 : B_cwrite_3_32 what = fun i a => uset a (116 + 2 * 3) (Int32.ofNat i).toNatClampNeg (cvF (a (115 + 2 * 3) 2) (bif m_cmp .ne what 0 then a 17 i else a 16 i)) := rfl
  dsimp only [F_cwrite_3, G_cwrite]
  rw [e1, bl_e, e2]
  cases bl what 2 <;> rfl
theorem cs_cwrite (s : SG) (what : Int32) (s_ : Int32) : F_cwrite s what s_ = bif bl s_ 4 then G_cwrite s_.toNatClampNeg s what else ((-2), s) := by
  unfold F_cwrite
  by_cases e0 : s_ = 0
  · rw [if_pos e0, e0, gl_cwrite_0, show bl 0 4 = true from rfl, show (0 : Int32).toNatClampNeg = 0 from rfl, cT]
  by_cases e1 : s_ = 1
  · rw [if_neg e0, if_pos e1, e1, gl_cwrite_1, show bl 1 4 = true from rfl, show (1 : Int32).toNatClampNeg = 1 from rfl, cT]
  by_cases e2 : s_ = 2
  · rw [if_neg e0, if_neg e1, if_pos e2, e2, gl_cwrite_2, show bl 2 4 = true from rfl, show (2 : Int32).toNatClampNeg = 2 from rfl, cT]
  by_cases e3 : s_ = 3
  · rw [if_neg e0, if_neg e1, if_neg e2, if_pos e3, e3, gl_cwrite_3, show bl 3 4 = true from rfl, show (3 : Int32).toNatClampNeg = 3 from rfl, cT]
  rw [if_neg e0, if_neg e1, if_neg e2, if_neg e3]
  have hb : bl s_ 4 = false := by
    cases q : bl s_ 4 with
    | false => rfl
    | true =>
      rcases bl_4.mp q with w | w | w | w
      · exact absurd w e0
      · exact absurd w e1
      · exact absurd w e2
      · exact absurd w e3
  rw [hb]
  rfl
