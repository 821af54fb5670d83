/-! the class's calls, whatever the number of the text (printed by wip/u/mk_txt.py) -/
def F_ctype (s : SG) (text : Int32) (b : Int32) : Int32 × SG := if text = 0 then F_ctype_0 s b else if text = 1 then F_ctype_1 s b else if text = 2 then F_ctype_2 s b else ((-2), s)
theorem ux_ctype (s : SG) (text : Int32) (b : Int32) : UP m_X6_type 0 (m_ent 4 [.ref 0, .int text, .int b]) [] s (Qb (F_ctype s text b)) := by
  unfold F_ctype
  by_cases e0 : text = 0
  · rw [if_pos e0, e0]
    exact ux_ctype_0 s b
  by_cases e1 : text = 1
  · rw [if_neg e0, if_pos e1, e1]
    exact ux_ctype_1 s b
  by_cases e2 : text = 2
  · rw [if_neg e0, if_neg e1, if_pos e2, e2]
    exact ux_ctype_2 s b
  rw [if_neg e0, if_neg e1, if_neg e2]
  have hb : bl text 3 = false := by
    cases q : bl text 3 with
    | false => rfl
    | true =>
      rcases bl_3.mp q with w | w | w
      · exact absurd w e0
      · exact absurd w e1
      · exact absurd w e2
  refine UP.stp 2 (i1 := 2) (L1 := [some (.ref 0), some (.int text), some (.int b), none]) (st1 := [.int 3, .int text]) (s1 := s) rfl ?_
  refine UP.cI (M1 := m_X6_isBelow) (as := [.int text, .int 3]) (rest := []) (T := F_isBelow s text 3) rfl rfl (ux_isBelow s text 3) ?_
  refine UP.ifT rfl (by rw [bl_e, hb]; rfl) ?_
  refine UP.stp 1 (i1 := 9) (L1 := [some (.ref 0), some (.int text), some (.int b), none]) (st1 := [.int (-2)]) (s1 := s) rfl ?_
  exact UP.ret (r := some (.int (-2))) rfl ⟨rfl, rfl⟩
def F_cwipe (s : SG) (text : Int32) : Int32 × SG := if text = 0 then F_cwipe_0 s  else if text = 1 then F_cwipe_1 s  else if text = 2 then F_cwipe_2 s  else ((-2), s)
theorem ux_cwipe (s : SG) (text : Int32) : UP m_X6_wipe 0 (m_ent 3 [.ref 0, .int text]) [] s (Qb (F_cwipe s text)) := by
  unfold F_cwipe
  by_cases e0 : text = 0
  · rw [if_pos e0, e0]
    exact ux_cwipe_0 s 
  by_cases e1 : text = 1
  · rw [if_neg e0, if_pos e1, e1]
    exact ux_cwipe_1 s 
  by_cases e2 : text = 2
  · rw [if_neg e0, if_neg e1, if_pos e2, e2]
    exact ux_cwipe_2 s 
  rw [if_neg e0, if_neg e1, if_neg e2]
  have hb : bl text 3 = false := by
    cases q : bl text 3 with
    | false => rfl
    | true =>
      rcases bl_3.mp q with w | w | w
      · exact absurd w e0
      · exact absurd w e1
      · exact absurd w e2
  refine UP.stp 2 (i1 := 2) (L1 := [some (.ref 0), some (.int text), none]) (st1 := [.int 3, .int text]) (s1 := s) rfl ?_
  refine UP.cI (M1 := m_X6_isBelow) (as := [.int text, .int 3]) (rest := []) (T := F_isBelow s text 3) rfl rfl (ux_isBelow s text 3) ?_
  refine UP.ifF rfl (by rw [bl_n, hb]) ?_
  refine UP.stp 1 (i1 := 5) (L1 := [some (.ref 0), some (.int text), none]) (st1 := [.int (-2)]) (s1 := s) rfl ?_
  exact UP.ret (r := some (.int (-2))) rfl ⟨rfl, rfl⟩
def F_cundo (s : SG) (text : Int32) : Int32 × SG := if text = 0 then F_cundo_0 s  else if text = 1 then F_cundo_1 s  else if text = 2 then F_cundo_2 s  else ((-2), s)
theorem ux_cundo (s : SG) (text : Int32) : UP m_X6_undo 0 (m_ent 2 [.ref 0, .int text]) [] s (Qb (F_cundo s text)) := by
  unfold F_cundo
  by_cases e0 : text = 0
  · rw [if_pos e0, e0]
    exact ux_cundo_0 s 
  by_cases e1 : text = 1
  · rw [if_neg e0, if_pos e1, e1]
    exact ux_cundo_1 s 
  by_cases e2 : text = 2
  · rw [if_neg e0, if_neg e1, if_pos e2, e2]
    exact ux_cundo_2 s 
  rw [if_neg e0, if_neg e1, if_neg e2]
  have hb : bl text 3 = false := by
    cases q : bl text 3 with
    | false => rfl
    | true =>
      rcases bl_3.mp q with w | w | w
      · exact absurd w e0
      · exact absurd w e1
      · exact absurd w e2
  refine UP.stp 2 (i1 := 2) (L1 := [some (.ref 0), some (.int text)]) (st1 := [.int 3, .int text]) (s1 := s) rfl ?_
  refine UP.cI (M1 := m_X6_isBelow) (as := [.int text, .int 3]) (rest := []) (T := F_isBelow s text 3) rfl rfl (ux_isBelow s text 3) ?_
  refine UP.ifF rfl (by rw [bl_n, hb]) ?_
  refine UP.stp 1 (i1 := 5) (L1 := [some (.ref 0), some (.int text)]) (st1 := [.int (-2)]) (s1 := s) rfl ?_
  exact UP.ret (r := some (.int (-2))) rfl ⟨rfl, rfl⟩
def F_cfault (s : SG) (text : Int32) : Int32 := if text = 0 then F_cfault_0 s  else if text = 1 then F_cfault_1 s  else if text = 2 then F_cfault_2 s  else (-2)
theorem ux_cfault (s : SG) (text : Int32) : UP m_X6_fault 0 (m_ent 2 [.ref 0, .int text]) [] s (Qi s (F_cfault s text)) := by
  unfold F_cfault
  by_cases e0 : text = 0
  · rw [if_pos e0, e0]
    exact ux_cfault_0 s 
  by_cases e1 : text = 1
  · rw [if_neg e0, if_pos e1, e1]
    exact ux_cfault_1 s 
  by_cases e2 : text = 2
  · rw [if_neg e0, if_neg e1, if_pos e2, e2]
    exact ux_cfault_2 s 
  rw [if_neg e0, if_neg e1, if_neg e2]
  have hb : bl text 3 = false := by
    cases q : bl text 3 with
    | false => rfl
    | true =>
      rcases bl_3.mp q with w | w | w
      · exact absurd w e0
      · exact absurd w e1
      · exact absurd w e2
  refine UP.stp 2 (i1 := 2) (L1 := [some (.ref 0), some (.int text)]) (st1 := [.int 3, .int text]) (s1 := s) rfl ?_
  refine UP.cI (M1 := m_X6_isBelow) (as := [.int text, .int 3]) (rest := []) (T := F_isBelow s text 3) rfl rfl (ux_isBelow s text 3) ?_
  refine UP.ifF rfl (by rw [bl_n, hb]) ?_
  refine UP.stp 1 (i1 := 5) (L1 := [some (.ref 0), some (.int text)]) (st1 := [.int (-2)]) (s1 := s) rfl ?_
  exact UP.ret (r := some (.int (-2))) rfl ⟨rfl, rfl⟩
theorem K_type {s : SG} (text : Int32) (b : Int32) (h : KU s) (h2 : KC s) : KU (F_type (F_ctype s text b).2 text b).2 ∧ KC (F_type (F_ctype s text b).2 text b).2 := by
  unfold F_ctype
  by_cases e0 : text = 0
  · rw [if_pos e0, e0]
    exact kty_0 b h h2
  by_cases e1 : text = 1
  · rw [if_neg e0, if_pos e1, e1]
    exact kty_1 b h h2
  by_cases e2 : text = 2
  · rw [if_neg e0, if_neg e1, if_pos e2, e2]
    exact kty_2 b h h2
  rw [if_neg e0, if_neg e1, if_neg e2]
  have hb : bl text 3 = false := by
    cases q : bl text 3 with
    | false => rfl
    | true =>
      rcases bl_3.mp q with w | w | w
      · exact absurd w e0
      · exact absurd w e1
      · exact absurd w e2
  have e : m_cmp .eq (F_isText s text) 0 = true := by rw [show F_isText s text = F_in s text 0 2 from rfl, in_e s text 2 3 rfl, hb]; rfl
  have eM : F_type s text b = ((-2), s) := by
    dsimp only [F_type]
    rw [e]
    rfl
  show KU (F_type s text b).2 ∧ KC (F_type s text b).2
  rw [eM]
  exact ⟨h, h2⟩
theorem K_wipe {s : SG} (text : Int32) (h : KU s) (h2 : KC s) : KU (F_wipe (F_cwipe s text).2 text).2 ∧ KC (F_wipe (F_cwipe s text).2 text).2 := by
  unfold F_cwipe
  by_cases e0 : text = 0
  · rw [if_pos e0, e0]
    exact kwi_0 h h2
  by_cases e1 : text = 1
  · rw [if_neg e0, if_pos e1, e1]
    exact kwi_1 h h2
  by_cases e2 : text = 2
  · rw [if_neg e0, if_neg e1, if_pos e2, e2]
    exact kwi_2 h h2
  rw [if_neg e0, if_neg e1, if_neg e2]
  have hb : bl text 3 = false := by
    cases q : bl text 3 with
    | false => rfl
    | true =>
      rcases bl_3.mp q with w | w | w
      · exact absurd w e0
      · exact absurd w e1
      · exact absurd w e2
  have e : m_cmp .ne (F_isText s text) 0 = false := by rw [show F_isText s text = F_in s text 0 2 from rfl, in_n s text 2 3 rfl, hb]
  have eM : F_wipe s text = ((-2), s) := by
    dsimp only [F_wipe]
    rw [e]
    rfl
  show KU (F_wipe s text).2 ∧ KC (F_wipe s text).2
  rw [eM]
  exact ⟨h, h2⟩
theorem K_undo {s : SG} (text : Int32) (h : KU s) (h2 : KC s) : KU (F_undo (F_cundo s text).2 text).2 ∧ KC (F_undo (F_cundo s text).2 text).2 := by
  unfold F_cundo
  by_cases e0 : text = 0
  · rw [if_pos e0, e0]
    exact kun_0 h h2
  by_cases e1 : text = 1
  · rw [if_neg e0, if_pos e1, e1]
    exact kun_1 h h2
  by_cases e2 : text = 2
  · rw [if_neg e0, if_neg e1, if_pos e2, e2]
    exact kun_2 h h2
  rw [if_neg e0, if_neg e1, if_neg e2]
  have hb : bl text 3 = false := by
    cases q : bl text 3 with
    | false => rfl
    | true =>
      rcases bl_3.mp q with w | w | w
      · exact absurd w e0
      · exact absurd w e1
      · exact absurd w e2
  have e : m_cmp .ne (F_isText s text) 0 = false := by rw [show F_isText s text = F_in s text 0 2 from rfl, in_n s text 2 3 rfl, hb]
  have eM : F_undo s text = ((-2), s) := by
    dsimp only [F_undo]
    rw [e]
    rfl
  show KU (F_undo s text).2 ∧ KC (F_undo s text).2
  rw [eM]
  exact ⟨h, h2⟩
