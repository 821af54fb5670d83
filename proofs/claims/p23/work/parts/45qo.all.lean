section
/-! digest (printed by wip/u/mk_inv.py) -/
theorem KL_addMinutes_hd : ∀ n, (∀ (v1 : Int64) (u2 : Option Value) (v3 : Int64) (u4 : Option Value) (v5 : Int32) (u6 : Option Value) (s : SG), KF s → UPB n m_X6_addMinutes 4 [some (.ref 0), some (.long v1), u2, some (.long v3), u4, some (.int v5), u6] [] s KL) ∧ (∀ (v1 : Int64) (u2 : Option Value) (v3 : Int64) (u4 : Option Value) (v5 : Int32) (v6 : Int32) (s : SG), KF s → UPB n m_X6_addMinutes 29 [some (.ref 0), some (.long v1), u2, some (.long v3), u4, some (.int v5), some (.int v6)] [] s KL) := by
  intro n
  induction n with
  | zero => exact ⟨fun _ _ _ _ _ _ _ _ => UPB.zero, fun _ _ _ _ _ _ _ _ => UPB.zero⟩
  | succ n ih =>
    obtain ⟨IH4, IH29⟩ := ih
    refine ⟨?_, ?_⟩
    · intro v1 u2 v3 u4 v5 u6 s h
      refine UPB.hd 1 (i1 := 6) (L1 := [some (.ref 0), some (.long v1), u2, some (.long v3), u4, some (.int v5), u6]) (st1 := [.int 24, .int v5]) (s1 := s) rfl ?_
      refine UPB.ic rfl ?_ ?_
      · skip
        refine UPB.stp 1 (i1 := 47) (L1 := [some (.ref 0), some (.long v1), u2, some (.long v3), u4, some (.int v5), u6]) (st1 := [.long v3]) (s1 := s) rfl ?_
        exact UPB.ret (r := some (.long v3)) rfl ⟨⟨_, rfl⟩, h⟩
      · skip
        refine UPB.stp 6 (i1 := 13) (L1 := [some (.ref 0), some (.long v1), u2, some (.long v3), u4, some (.int v5), u6]) (st1 := [.int 0, .int v5, .ref 0, .long (31 * v3)]) (s1 := s) rfl ?_
        refine UPB.cI (M1 := m_X6_call) (as := [.ref 0, .int v5, .int 0]) (rest := [.long (31 * v3)]) rfl rfl (KI_call h v5 0) (fun x1 s2 h3 => ?_)
        refine UPB.stp 9 (i1 := 23) (L1 := [some (.ref 0), some (.long v1), u2, some (.long ((31 * v3) + x1.toInt64)), u4, some (.int v5), u6]) (st1 := [.int 1, .int v5, .ref 0, .long (31 * ((31 * v3) + x1.toInt64))]) (s1 := s2) rfl ?_
        refine UPB.cI (M1 := m_X6_call) (as := [.ref 0, .int v5, .int 1]) (rest := [.long (31 * ((31 * v3) + x1.toInt64))]) rfl rfl (KI_call h3 v5 1) (fun x4 s5 h6 => ?_)
        refine UPB.stp 5 (i1 := 29) (L1 := [some (.ref 0), some (.long v1), u2, some (.long ((31 * ((31 * v3) + x1.toInt64)) + x4.toInt64)), u4, some (.int v5), some (.int 0)]) (st1 := []) (s1 := s5) rfl ?_
        exact IH29 v1 u2 ((31 * ((31 * v3) + x1.toInt64)) + x4.toInt64) u4 v5 0 s5 h6
    · intro v1 u2 v3 u4 v5 v6 s h
      refine UPB.hd 1 (i1 := 31) (L1 := [some (.ref 0), some (.long v1), u2, some (.long v3), u4, some (.int v5), some (.int v6)]) (st1 := [.int 5, .int v6]) (s1 := s) rfl ?_
      refine UPB.ic rfl ?_ ?_
      · skip
        refine UPB.stp 2 (i1 := 4) (L1 := [some (.ref 0), some (.long v1), u2, some (.long v3), u4, some (.int (v5 + 1)), some (.int v6)]) (st1 := []) (s1 := s) rfl ?_
        exact IH4 v1 u2 v3 u4 (v5 + 1) (some (.int v6)) s h
      · skip
        refine UPB.stp 6 (i1 := 38) (L1 := [some (.ref 0), some (.long v1), u2, some (.long v3), u4, some (.int v5), some (.int v6)]) (st1 := [.int v6, .int v5, .ref 0, .long (31 * v3)]) (s1 := s) rfl ?_
        refine UPB.cI (M1 := m_X6_at) (as := [.ref 0, .int v5, .int v6]) (rest := [.long (31 * v3)]) rfl rfl (KI_at h v5 v6) (fun x7 s8 h9 => ?_)
        refine UPB.stp 5 (i1 := 29) (L1 := [some (.ref 0), some (.long v1), u2, some (.long ((31 * v3) + x7.toInt64)), u4, some (.int v5), some (.int (v6 + 1))]) (st1 := []) (s1 := s8) rfl ?_
        exact IH29 v1 u2 ((31 * v3) + x7.toInt64) u4 v5 (v6 + 1) s8 h9
theorem KL_addMinutes {s : SG} (h : KF s) (a : Int64) : UP m_X6_addMinutes 0 (m_ent 7 [.ref 0, .long a]) [] s KL := by
  refine UP.of_b (fun n => ?_)
  obtain ⟨IH4, IH29⟩ := KL_addMinutes_hd n
  refine UPB.stp 4 (i1 := 4) (L1 := [some (.ref 0), some (.long a), none, some (.long a), none, some (.int 0), none]) (st1 := []) (s1 := s) rfl ?_
  exact IH4 a none a none 0 none s h
theorem KL_addRower {s : SG} (h : KF s) (a : Int64) (b : Int32) : UP m_X6_addRower 0 (m_ent 6 [.ref 0, .long a, .int b]) [] s KL := by
  refine UP.of_b (fun n => ?_)
  refine UPB.stp 8 (i1 := 8) (L1 := [some (.ref 0), some (.long a), none, some (.int b), some (.long a), none]) (st1 := [.int 0, .int b, .ref 0, .long (31 * a)]) (s1 := s) rfl ?_
  refine UPB.cI (M1 := m_X6_rower) (as := [.ref 0, .int b, .int 0]) (rest := [.long (31 * a)]) rfl rfl (KI_rower h b 0) (fun x1 s2 h3 => ?_)
  refine UPB.stp 9 (i1 := 18) (L1 := [some (.ref 0), some (.long a), none, some (.int b), some (.long ((31 * a) + x1.toInt64)), none]) (st1 := [.int 1, .int b, .ref 0, .long (31 * ((31 * a) + x1.toInt64))]) (s1 := s2) rfl ?_
  refine UPB.cI (M1 := m_X6_rower) (as := [.ref 0, .int b, .int 1]) (rest := [.long (31 * ((31 * a) + x1.toInt64))]) rfl rfl (KI_rower h3 b 1) (fun x4 s5 h6 => ?_)
  refine UPB.stp 9 (i1 := 28) (L1 := [some (.ref 0), some (.long a), none, some (.int b), some (.long ((31 * ((31 * a) + x1.toInt64)) + x4.toInt64)), none]) (st1 := [.int b, .int 0, .ref 0, .long (31 * ((31 * ((31 * a) + x1.toInt64)) + x4.toInt64))]) (s1 := s5) rfl ?_
  refine UPB.cI (M1 := m_X6_pulls) (as := [.ref 0, .int 0, .int b]) (rest := [.long (31 * ((31 * ((31 * a) + x1.toInt64)) + x4.toInt64))]) rfl rfl (KI_pulls h6 0 b) (fun x7 s8 h9 => ?_)
  refine UPB.stp 9 (i1 := 38) (L1 := [some (.ref 0), some (.long a), none, some (.int b), some (.long ((31 * ((31 * ((31 * a) + x1.toInt64)) + x4.toInt64)) + x7.toInt64)), none]) (st1 := [.int b, .int 7, .ref 0, .long (31 * ((31 * ((31 * ((31 * a) + x1.toInt64)) + x4.toInt64)) + x7.toInt64))]) (s1 := s8) rfl ?_
  refine UPB.cI (M1 := m_X6_pulls) (as := [.ref 0, .int 7, .int b]) (rest := [.long (31 * ((31 * ((31 * ((31 * a) + x1.toInt64)) + x4.toInt64)) + x7.toInt64))]) rfl rfl (KI_pulls h9 7 b) (fun x10 s11 h12 => ?_)
  refine UPB.stp 9 (i1 := 48) (L1 := [some (.ref 0), some (.long a), none, some (.int b), some (.long ((31 * ((31 * ((31 * ((31 * a) + x1.toInt64)) + x4.toInt64)) + x7.toInt64)) + x10.toInt64)), none]) (st1 := [.int b, .int 15, .ref 0, .long (31 * ((31 * ((31 * ((31 * ((31 * a) + x1.toInt64)) + x4.toInt64)) + x7.toInt64)) + x10.toInt64))]) (s1 := s11) rfl ?_
  refine UPB.cI (M1 := m_X6_pulls) (as := [.ref 0, .int 15, .int b]) (rest := [.long (31 * ((31 * ((31 * ((31 * ((31 * a) + x1.toInt64)) + x4.toInt64)) + x7.toInt64)) + x10.toInt64))]) rfl rfl (KI_pulls h12 15 b) (fun x13 s14 h15 => ?_)
  refine UPB.stp 9 (i1 := 58) (L1 := [some (.ref 0), some (.long a), none, some (.int b), some (.long ((31 * ((31 * ((31 * ((31 * ((31 * a) + x1.toInt64)) + x4.toInt64)) + x7.toInt64)) + x10.toInt64)) + x13.toInt64)), none]) (st1 := [.int 0, .int b, .ref 0, .long (31 * ((31 * ((31 * ((31 * ((31 * ((31 * a) + x1.toInt64)) + x4.toInt64)) + x7.toInt64)) + x10.toInt64)) + x13.toInt64))]) (s1 := s14) rfl ?_
  refine UPB.cI (M1 := m_X6_done) (as := [.ref 0, .int b, .int 0]) (rest := [.long (31 * ((31 * ((31 * ((31 * ((31 * ((31 * a) + x1.toInt64)) + x4.toInt64)) + x7.toInt64)) + x10.toInt64)) + x13.toInt64))]) rfl rfl (KI_done h15 b 0) (fun x16 s17 h18 => ?_)
  refine UPB.stp 9 (i1 := 68) (L1 := [some (.ref 0), some (.long a), none, some (.int b), some (.long ((31 * ((31 * ((31 * ((31 * ((31 * ((31 * a) + x1.toInt64)) + x4.toInt64)) + x7.toInt64)) + x10.toInt64)) + x13.toInt64)) + x16.toInt64)), none]) (st1 := [.int 1, .int b, .ref 0, .long (31 * ((31 * ((31 * ((31 * ((31 * ((31 * ((31 * a) + x1.toInt64)) + x4.toInt64)) + x7.toInt64)) + x10.toInt64)) + x13.toInt64)) + x16.toInt64))]) (s1 := s17) rfl ?_
  refine UPB.cI (M1 := m_X6_done) (as := [.ref 0, .int b, .int 1]) (rest := [.long (31 * ((31 * ((31 * ((31 * ((31 * ((31 * ((31 * a) + x1.toInt64)) + x4.toInt64)) + x7.toInt64)) + x10.toInt64)) + x13.toInt64)) + x16.toInt64))]) rfl rfl (KI_done h18 b 1) (fun x19 s20 h21 => ?_)
  refine UPB.stp 9 (i1 := 78) (L1 := [some (.ref 0), some (.long a), none, some (.int b), some (.long ((31 * ((31 * ((31 * ((31 * ((31 * ((31 * ((31 * a) + x1.toInt64)) + x4.toInt64)) + x7.toInt64)) + x10.toInt64)) + x13.toInt64)) + x16.toInt64)) + x19.toInt64)), none]) (st1 := [.int 0, .int b, .ref 0, .long (31 * ((31 * ((31 * ((31 * ((31 * ((31 * ((31 * ((31 * a) + x1.toInt64)) + x4.toInt64)) + x7.toInt64)) + x10.toInt64)) + x13.toInt64)) + x16.toInt64)) + x19.toInt64))]) (s1 := s20) rfl ?_
  refine UPB.cI (M1 := m_X6_was) (as := [.ref 0, .int b, .int 0]) (rest := [.long (31 * ((31 * ((31 * ((31 * ((31 * ((31 * ((31 * ((31 * a) + x1.toInt64)) + x4.toInt64)) + x7.toInt64)) + x10.toInt64)) + x13.toInt64)) + x16.toInt64)) + x19.toInt64))]) rfl rfl (KI_was h21 b 0) (fun x22 s23 h24 => ?_)
  refine UPB.stp 9 (i1 := 88) (L1 := [some (.ref 0), some (.long a), none, some (.int b), some (.long ((31 * ((31 * ((31 * ((31 * ((31 * ((31 * ((31 * ((31 * a) + x1.toInt64)) + x4.toInt64)) + x7.toInt64)) + x10.toInt64)) + x13.toInt64)) + x16.toInt64)) + x19.toInt64)) + x22.toInt64)), none]) (st1 := [.int 1, .int b, .ref 0, .long (31 * ((31 * ((31 * ((31 * ((31 * ((31 * ((31 * ((31 * ((31 * a) + x1.toInt64)) + x4.toInt64)) + x7.toInt64)) + x10.toInt64)) + x13.toInt64)) + x16.toInt64)) + x19.toInt64)) + x22.toInt64))]) (s1 := s23) rfl ?_
  refine UPB.cI (M1 := m_X6_was) (as := [.ref 0, .int b, .int 1]) (rest := [.long (31 * ((31 * ((31 * ((31 * ((31 * ((31 * ((31 * ((31 * ((31 * a) + x1.toInt64)) + x4.toInt64)) + x7.toInt64)) + x10.toInt64)) + x13.toInt64)) + x16.toInt64)) + x19.toInt64)) + x22.toInt64))]) rfl rfl (KI_was h24 b 1) (fun x25 s26 h27 => ?_)
  refine UPB.stp 8 (i1 := 97) (L1 := [some (.ref 0), some (.long a), none, some (.int b), some (.long ((31 * ((31 * ((31 * ((31 * ((31 * ((31 * ((31 * ((31 * ((31 * a) + x1.toInt64)) + x4.toInt64)) + x7.toInt64)) + x10.toInt64)) + x13.toInt64)) + x16.toInt64)) + x19.toInt64)) + x22.toInt64)) + x25.toInt64)), none]) (st1 := [.int b, .ref 0, .long (31 * ((31 * ((31 * ((31 * ((31 * ((31 * ((31 * ((31 * ((31 * ((31 * a) + x1.toInt64)) + x4.toInt64)) + x7.toInt64)) + x10.toInt64)) + x13.toInt64)) + x16.toInt64)) + x19.toInt64)) + x22.toInt64)) + x25.toInt64))]) (s1 := s26) rfl ?_
  refine UPB.cI (M1 := m_X6_ask) (as := [.ref 0, .int b]) (rest := [.long (31 * ((31 * ((31 * ((31 * ((31 * ((31 * ((31 * ((31 * ((31 * ((31 * a) + x1.toInt64)) + x4.toInt64)) + x7.toInt64)) + x10.toInt64)) + x13.toInt64)) + x16.toInt64)) + x19.toInt64)) + x22.toInt64)) + x25.toInt64))]) rfl rfl (KI_ask h27 b) (fun x28 s29 h30 => ?_)
  refine UPB.stp 2 (i1 := 100) (L1 := [some (.ref 0), some (.long a), none, some (.int b), some (.long ((31 * ((31 * ((31 * ((31 * ((31 * ((31 * ((31 * ((31 * ((31 * a) + x1.toInt64)) + x4.toInt64)) + x7.toInt64)) + x10.toInt64)) + x13.toInt64)) + x16.toInt64)) + x19.toInt64)) + x22.toInt64)) + x25.toInt64)), none]) (st1 := [.long ((31 * ((31 * ((31 * ((31 * ((31 * ((31 * ((31 * ((31 * ((31 * ((31 * a) + x1.toInt64)) + x4.toInt64)) + x7.toInt64)) + x10.toInt64)) + x13.toInt64)) + x16.toInt64)) + x19.toInt64)) + x22.toInt64)) + x25.toInt64)) + x28.toInt64)]) (s1 := s29) rfl ?_
  exact UPB.ret (r := some (.long ((31 * ((31 * ((31 * ((31 * ((31 * ((31 * ((31 * ((31 * ((31 * ((31 * a) + x1.toInt64)) + x4.toInt64)) + x7.toInt64)) + x10.toInt64)) + x13.toInt64)) + x16.toInt64)) + x19.toInt64)) + x22.toInt64)) + x25.toInt64)) + x28.toInt64))) rfl ⟨⟨_, rfl⟩, h30⟩
theorem KL_addPlans {s : SG} (h : KF s) (a : Int64) (b : Int32) : UP m_X6_addPlans 0 (m_ent 6 [.ref 0, .long a, .int b]) [] s KL := by
  refine UP.of_b (fun n => ?_)
  refine UPB.stp 8 (i1 := 8) (L1 := [some (.ref 0), some (.long a), none, some (.int b), some (.long a), none]) (st1 := [.int 0, .int b, .ref 0, .long (31 * a)]) (s1 := s) rfl ?_
  refine UPB.cI (M1 := m_X6_steer) (as := [.ref 0, .int b, .int 0]) (rest := [.long (31 * a)]) rfl rfl (KI_steer h b 0) (fun x1 s2 h3 => ?_)
  refine UPB.stp 9 (i1 := 18) (L1 := [some (.ref 0), some (.long a), none, some (.int b), some (.long ((31 * a) + x1.toInt64)), none]) (st1 := [.int 1, .int b, .ref 0, .long (31 * ((31 * a) + x1.toInt64))]) (s1 := s2) rfl ?_
  refine UPB.cI (M1 := m_X6_steer) (as := [.ref 0, .int b, .int 1]) (rest := [.long (31 * ((31 * a) + x1.toInt64))]) rfl rfl (KI_steer h3 b 1) (fun x4 s5 h6 => ?_)
  refine UPB.stp 9 (i1 := 28) (L1 := [some (.ref 0), some (.long a), none, some (.int b), some (.long ((31 * ((31 * a) + x1.toInt64)) + x4.toInt64)), none]) (st1 := [.int 0, .int b, .ref 0, .long (31 * ((31 * ((31 * a) + x1.toInt64)) + x4.toInt64))]) (s1 := s5) rfl ?_
  refine UPB.cI (M1 := m_X6_stroke) (as := [.ref 0, .int b, .int 0]) (rest := [.long (31 * ((31 * ((31 * a) + x1.toInt64)) + x4.toInt64))]) rfl rfl (KI_stroke h6 b 0) (fun x7 s8 h9 => ?_)
  refine UPB.stp 9 (i1 := 38) (L1 := [some (.ref 0), some (.long a), none, some (.int b), some (.long ((31 * ((31 * ((31 * a) + x1.toInt64)) + x4.toInt64)) + x7.toInt64)), none]) (st1 := [.int 1, .int b, .ref 0, .long (31 * ((31 * ((31 * ((31 * a) + x1.toInt64)) + x4.toInt64)) + x7.toInt64))]) (s1 := s8) rfl ?_
  refine UPB.cI (M1 := m_X6_stroke) (as := [.ref 0, .int b, .int 1]) (rest := [.long (31 * ((31 * ((31 * ((31 * a) + x1.toInt64)) + x4.toInt64)) + x7.toInt64))]) rfl rfl (KI_stroke h9 b 1) (fun x10 s11 h12 => ?_)
  refine UPB.stp 10 (i1 := 49) (L1 := [some (.ref 0), some (.long a), none, some (.int b), some (.long ((31 * ((31 * ((31 * ((31 * a) + x1.toInt64)) + x4.toInt64)) + x7.toInt64)) + x10.toInt64)), none]) (st1 := [.int 0, .int b, .int 5, .ref 0, .long (31 * ((31 * ((31 * ((31 * ((31 * a) + x1.toInt64)) + x4.toInt64)) + x7.toInt64)) + x10.toInt64))]) (s1 := s11) rfl ?_
  refine UPB.cL (M1 := m_X6_chance) (as := [.ref 0, .int 5, .int b, .int 0]) (rest := [.long (31 * ((31 * ((31 * ((31 * ((31 * a) + x1.toInt64)) + x4.toInt64)) + x7.toInt64)) + x10.toInt64))]) rfl rfl (KL_chance h12 5 b 0) (fun x13 s14 h15 => ?_)
  refine UPB.stp 9 (i1 := 59) (L1 := [some (.ref 0), some (.long a), none, some (.int b), some (.long ((31 * ((31 * ((31 * ((31 * ((31 * a) + x1.toInt64)) + x4.toInt64)) + x7.toInt64)) + x10.toInt64)) + x13)), none]) (st1 := [.int 1, .int b, .int 5, .ref 0, .long (31 * ((31 * ((31 * ((31 * ((31 * ((31 * a) + x1.toInt64)) + x4.toInt64)) + x7.toInt64)) + x10.toInt64)) + x13))]) (s1 := s14) rfl ?_
  refine UPB.cL (M1 := m_X6_chance) (as := [.ref 0, .int 5, .int b, .int 1]) (rest := [.long (31 * ((31 * ((31 * ((31 * ((31 * ((31 * a) + x1.toInt64)) + x4.toInt64)) + x7.toInt64)) + x10.toInt64)) + x13))]) rfl rfl (KL_chance h15 5 b 1) (fun x16 s17 h18 => ?_)
  refine UPB.stp 1 (i1 := 61) (L1 := [some (.ref 0), some (.long a), none, some (.int b), some (.long ((31 * ((31 * ((31 * ((31 * ((31 * a) + x1.toInt64)) + x4.toInt64)) + x7.toInt64)) + x10.toInt64)) + x13)), none]) (st1 := [.long ((31 * ((31 * ((31 * ((31 * ((31 * ((31 * a) + x1.toInt64)) + x4.toInt64)) + x7.toInt64)) + x10.toInt64)) + x13)) + x16)]) (s1 := s17) rfl ?_
  exact UPB.ret (r := some (.long ((31 * ((31 * ((31 * ((31 * ((31 * ((31 * a) + x1.toInt64)) + x4.toInt64)) + x7.toInt64)) + x10.toInt64)) + x13)) + x16))) rfl ⟨⟨_, rfl⟩, h18⟩
theorem KL_addWhole {s : SG} (h : KF s) (a : Int64) : UP m_X6_addWhole 0 (m_ent 5 [.ref 0, .long a]) [] s KL := by
  refine UP.of_b (fun n => ?_)
  refine UPB.stp 6 (i1 := 6) (L1 := [some (.ref 0), some (.long a), none, some (.long a), none]) (st1 := [.ref 0, .long (31 * a)]) (s1 := s) rfl ?_
  refine UPB.cI (M1 := m_X6_there) (as := [.ref 0]) (rest := [.long (31 * a)]) rfl rfl (KI_there h) (fun x1 s2 h3 => ?_)
  refine UPB.stp 8 (i1 := 15) (L1 := [some (.ref 0), some (.long a), none, some (.long ((31 * a) + x1.toInt64)), none]) (st1 := [.int 0, .ref 0, .long (31 * ((31 * a) + x1.toInt64))]) (s1 := s2) rfl ?_
  refine UPB.cI (M1 := m_X6_grounded) (as := [.ref 0, .int 0]) (rest := [.long (31 * ((31 * a) + x1.toInt64))]) rfl rfl (KI_grounded h3 0) (fun x4 s5 h6 => ?_)
  refine UPB.stp 8 (i1 := 24) (L1 := [some (.ref 0), some (.long a), none, some (.long ((31 * ((31 * a) + x1.toInt64)) + x4.toInt64)), none]) (st1 := [.int 1, .ref 0, .long (31 * ((31 * ((31 * a) + x1.toInt64)) + x4.toInt64))]) (s1 := s5) rfl ?_
  refine UPB.cI (M1 := m_X6_grounded) (as := [.ref 0, .int 1]) (rest := [.long (31 * ((31 * ((31 * a) + x1.toInt64)) + x4.toInt64))]) rfl rfl (KI_grounded h6 1) (fun x7 s8 h9 => ?_)
  refine UPB.stp 8 (i1 := 33) (L1 := [some (.ref 0), some (.long a), none, some (.long ((31 * ((31 * ((31 * a) + x1.toInt64)) + x4.toInt64)) + x7.toInt64)), none]) (st1 := [.int 0, .ref 0, .long (31 * ((31 * ((31 * ((31 * a) + x1.toInt64)) + x4.toInt64)) + x7.toInt64))]) (s1 := s8) rfl ?_
  refine UPB.cI (M1 := m_X6_stray) (as := [.ref 0, .int 0]) (rest := [.long (31 * ((31 * ((31 * ((31 * a) + x1.toInt64)) + x4.toInt64)) + x7.toInt64))]) rfl rfl (KI_stray h9 0) (fun x10 s11 h12 => ?_)
  refine UPB.stp 8 (i1 := 42) (L1 := [some (.ref 0), some (.long a), none, some (.long ((31 * ((31 * ((31 * ((31 * a) + x1.toInt64)) + x4.toInt64)) + x7.toInt64)) + x10.toInt64)), none]) (st1 := [.int 1, .ref 0, .long (31 * ((31 * ((31 * ((31 * ((31 * a) + x1.toInt64)) + x4.toInt64)) + x7.toInt64)) + x10.toInt64))]) (s1 := s11) rfl ?_
  refine UPB.cI (M1 := m_X6_stray) (as := [.ref 0, .int 1]) (rest := [.long (31 * ((31 * ((31 * ((31 * ((31 * a) + x1.toInt64)) + x4.toInt64)) + x7.toInt64)) + x10.toInt64))]) rfl rfl (KI_stray h12 1) (fun x13 s14 h15 => ?_)
  refine UPB.stp 7 (i1 := 50) (L1 := [some (.ref 0), some (.long a), none, some (.long ((31 * ((31 * ((31 * ((31 * ((31 * a) + x1.toInt64)) + x4.toInt64)) + x7.toInt64)) + x10.toInt64)) + x13.toInt64)), none]) (st1 := [.ref 0, .long (31 * ((31 * ((31 * ((31 * ((31 * ((31 * a) + x1.toInt64)) + x4.toInt64)) + x7.toInt64)) + x10.toInt64)) + x13.toInt64))]) (s1 := s14) rfl ?_
  refine UPB.cI (M1 := m_X6_best) (as := [.ref 0]) (rest := [.long (31 * ((31 * ((31 * ((31 * ((31 * ((31 * a) + x1.toInt64)) + x4.toInt64)) + x7.toInt64)) + x10.toInt64)) + x13.toInt64))]) rfl rfl (KI_best h15) (fun x16 s17 h18 => ?_)
  refine UPB.stp 7 (i1 := 58) (L1 := [some (.ref 0), some (.long a), none, some (.long ((31 * ((31 * ((31 * ((31 * ((31 * ((31 * a) + x1.toInt64)) + x4.toInt64)) + x7.toInt64)) + x10.toInt64)) + x13.toInt64)) + x16.toInt64)), none]) (st1 := [.ref 0, .long (31 * ((31 * ((31 * ((31 * ((31 * ((31 * ((31 * a) + x1.toInt64)) + x4.toInt64)) + x7.toInt64)) + x10.toInt64)) + x13.toInt64)) + x16.toInt64))]) (s1 := s17) rfl ?_
  refine UPB.cI (M1 := m_X6_idle) (as := [.ref 0]) (rest := [.long (31 * ((31 * ((31 * ((31 * ((31 * ((31 * ((31 * a) + x1.toInt64)) + x4.toInt64)) + x7.toInt64)) + x10.toInt64)) + x13.toInt64)) + x16.toInt64))]) rfl rfl (KI_idle h18) (fun x19 s20 h21 => ?_)
  refine UPB.stp 8 (i1 := 67) (L1 := [some (.ref 0), some (.long a), none, some (.long ((31 * ((31 * ((31 * ((31 * ((31 * ((31 * ((31 * a) + x1.toInt64)) + x4.toInt64)) + x7.toInt64)) + x10.toInt64)) + x13.toInt64)) + x16.toInt64)) + x19.toInt64)), none]) (st1 := [.int 0, .ref 0, .long (31 * ((31 * ((31 * ((31 * ((31 * ((31 * ((31 * ((31 * a) + x1.toInt64)) + x4.toInt64)) + x7.toInt64)) + x10.toInt64)) + x13.toInt64)) + x16.toInt64)) + x19.toInt64))]) (s1 := s20) rfl ?_
  refine UPB.cI (M1 := m_X6_swap) (as := [.ref 0, .int 0]) (rest := [.long (31 * ((31 * ((31 * ((31 * ((31 * ((31 * ((31 * ((31 * a) + x1.toInt64)) + x4.toInt64)) + x7.toInt64)) + x10.toInt64)) + x13.toInt64)) + x16.toInt64)) + x19.toInt64))]) rfl rfl (KI_swap h21 0) (fun x22 s23 h24 => ?_)
  refine UPB.stp 8 (i1 := 76) (L1 := [some (.ref 0), some (.long a), none, some (.long ((31 * ((31 * ((31 * ((31 * ((31 * ((31 * ((31 * ((31 * a) + x1.toInt64)) + x4.toInt64)) + x7.toInt64)) + x10.toInt64)) + x13.toInt64)) + x16.toInt64)) + x19.toInt64)) + x22.toInt64)), none]) (st1 := [.int 1, .ref 0, .long (31 * ((31 * ((31 * ((31 * ((31 * ((31 * ((31 * ((31 * ((31 * a) + x1.toInt64)) + x4.toInt64)) + x7.toInt64)) + x10.toInt64)) + x13.toInt64)) + x16.toInt64)) + x19.toInt64)) + x22.toInt64))]) (s1 := s23) rfl ?_
  refine UPB.cI (M1 := m_X6_swap) (as := [.ref 0, .int 1]) (rest := [.long (31 * ((31 * ((31 * ((31 * ((31 * ((31 * ((31 * ((31 * ((31 * a) + x1.toInt64)) + x4.toInt64)) + x7.toInt64)) + x10.toInt64)) + x13.toInt64)) + x16.toInt64)) + x19.toInt64)) + x22.toInt64))]) rfl rfl (KI_swap h24 1) (fun x25 s26 h27 => ?_)
  refine UPB.stp 8 (i1 := 85) (L1 := [some (.ref 0), some (.long a), none, some (.long ((31 * ((31 * ((31 * ((31 * ((31 * ((31 * ((31 * ((31 * ((31 * a) + x1.toInt64)) + x4.toInt64)) + x7.toInt64)) + x10.toInt64)) + x13.toInt64)) + x16.toInt64)) + x19.toInt64)) + x22.toInt64)) + x25.toInt64)), none]) (st1 := [.int 2, .ref 0, .long (31 * ((31 * ((31 * ((31 * ((31 * ((31 * ((31 * ((31 * ((31 * ((31 * a) + x1.toInt64)) + x4.toInt64)) + x7.toInt64)) + x10.toInt64)) + x13.toInt64)) + x16.toInt64)) + x19.toInt64)) + x22.toInt64)) + x25.toInt64))]) (s1 := s26) rfl ?_
  refine UPB.cI (M1 := m_X6_swap) (as := [.ref 0, .int 2]) (rest := [.long (31 * ((31 * ((31 * ((31 * ((31 * ((31 * ((31 * ((31 * ((31 * ((31 * a) + x1.toInt64)) + x4.toInt64)) + x7.toInt64)) + x10.toInt64)) + x13.toInt64)) + x16.toInt64)) + x19.toInt64)) + x22.toInt64)) + x25.toInt64))]) rfl rfl (KI_swap h27 2) (fun x28 s29 h30 => ?_)
  refine UPB.stp 8 (i1 := 94) (L1 := [some (.ref 0), some (.long a), none, some (.long ((31 * ((31 * ((31 * ((31 * ((31 * ((31 * ((31 * ((31 * ((31 * ((31 * a) + x1.toInt64)) + x4.toInt64)) + x7.toInt64)) + x10.toInt64)) + x13.toInt64)) + x16.toInt64)) + x19.toInt64)) + x22.toInt64)) + x25.toInt64)) + x28.toInt64)), none]) (st1 := [.int (-1), .ref 0, .long (31 * ((31 * ((31 * ((31 * ((31 * ((31 * ((31 * ((31 * ((31 * ((31 * ((31 * a) + x1.toInt64)) + x4.toInt64)) + x7.toInt64)) + x10.toInt64)) + x13.toInt64)) + x16.toInt64)) + x19.toInt64)) + x22.toInt64)) + x25.toInt64)) + x28.toInt64))]) (s1 := s29) rfl ?_
  refine UPB.cI (M1 := m_X6_spare) (as := [.ref 0, .int (-1)]) (rest := [.long (31 * ((31 * ((31 * ((31 * ((31 * ((31 * ((31 * ((31 * ((31 * ((31 * ((31 * a) + x1.toInt64)) + x4.toInt64)) + x7.toInt64)) + x10.toInt64)) + x13.toInt64)) + x16.toInt64)) + x19.toInt64)) + x22.toInt64)) + x25.toInt64)) + x28.toInt64))]) rfl rfl (KI_spare h30 (-1)) (fun x31 s32 h33 => ?_)
  refine UPB.stp 8 (i1 := 103) (L1 := [some (.ref 0), some (.long a), none, some (.long ((31 * ((31 * ((31 * ((31 * ((31 * ((31 * ((31 * ((31 * ((31 * ((31 * ((31 * a) + x1.toInt64)) + x4.toInt64)) + x7.toInt64)) + x10.toInt64)) + x13.toInt64)) + x16.toInt64)) + x19.toInt64)) + x22.toInt64)) + x25.toInt64)) + x28.toInt64)) + x31.toInt64)), none]) (st1 := [.int 0, .ref 0, .long (31 * ((31 * ((31 * ((31 * ((31 * ((31 * ((31 * ((31 * ((31 * ((31 * ((31 * ((31 * a) + x1.toInt64)) + x4.toInt64)) + x7.toInt64)) + x10.toInt64)) + x13.toInt64)) + x16.toInt64)) + x19.toInt64)) + x22.toInt64)) + x25.toInt64)) + x28.toInt64)) + x31.toInt64))]) (s1 := s32) rfl ?_
  refine UPB.cI (M1 := m_X6_spare) (as := [.ref 0, .int 0]) (rest := [.long (31 * ((31 * ((31 * ((31 * ((31 * ((31 * ((31 * ((31 * ((31 * ((31 * ((31 * ((31 * a) + x1.toInt64)) + x4.toInt64)) + x7.toInt64)) + x10.toInt64)) + x13.toInt64)) + x16.toInt64)) + x19.toInt64)) + x22.toInt64)) + x25.toInt64)) + x28.toInt64)) + x31.toInt64))]) rfl rfl (KI_spare h33 0) (fun x34 s35 h36 => ?_)
  refine UPB.stp 7 (i1 := 111) (L1 := [some (.ref 0), some (.long a), none, some (.long ((31 * ((31 * ((31 * ((31 * ((31 * ((31 * ((31 * ((31 * ((31 * ((31 * ((31 * ((31 * a) + x1.toInt64)) + x4.toInt64)) + x7.toInt64)) + x10.toInt64)) + x13.toInt64)) + x16.toInt64)) + x19.toInt64)) + x22.toInt64)) + x25.toInt64)) + x28.toInt64)) + x31.toInt64)) + x34.toInt64)), none]) (st1 := [.ref 0, .long (31 * ((31 * ((31 * ((31 * ((31 * ((31 * ((31 * ((31 * ((31 * ((31 * ((31 * ((31 * ((31 * a) + x1.toInt64)) + x4.toInt64)) + x7.toInt64)) + x10.toInt64)) + x13.toInt64)) + x16.toInt64)) + x19.toInt64)) + x22.toInt64)) + x25.toInt64)) + x28.toInt64)) + x31.toInt64)) + x34.toInt64))]) (s1 := s35) rfl ?_
  refine UPB.cI (M1 := m_X6_never) (as := [.ref 0]) (rest := [.long (31 * ((31 * ((31 * ((31 * ((31 * ((31 * ((31 * ((31 * ((31 * ((31 * ((31 * ((31 * ((31 * a) + x1.toInt64)) + x4.toInt64)) + x7.toInt64)) + x10.toInt64)) + x13.toInt64)) + x16.toInt64)) + x19.toInt64)) + x22.toInt64)) + x25.toInt64)) + x28.toInt64)) + x31.toInt64)) + x34.toInt64))]) rfl rfl (KI_never h36) (fun x37 s38 h39 => ?_)
  refine UPB.stp 10 (i1 := 122) (L1 := [some (.ref 0), some (.long a), none, some (.long ((31 * ((31 * ((31 * ((31 * ((31 * ((31 * ((31 * ((31 * ((31 * ((31 * ((31 * ((31 * ((31 * a) + x1.toInt64)) + x4.toInt64)) + x7.toInt64)) + x10.toInt64)) + x13.toInt64)) + x16.toInt64)) + x19.toInt64)) + x22.toInt64)) + x25.toInt64)) + x28.toInt64)) + x31.toInt64)) + x34.toInt64)) + x37.toInt64)), none]) (st1 := [.int 0, .int 18, .int 7, .ref 0, .long (31 * ((31 * ((31 * ((31 * ((31 * ((31 * ((31 * ((31 * ((31 * ((31 * ((31 * ((31 * ((31 * ((31 * a) + x1.toInt64)) + x4.toInt64)) + x7.toInt64)) + x10.toInt64)) + x13.toInt64)) + x16.toInt64)) + x19.toInt64)) + x22.toInt64)) + x25.toInt64)) + x28.toInt64)) + x31.toInt64)) + x34.toInt64)) + x37.toInt64))]) (s1 := s38) rfl ?_
  refine UPB.cI (M1 := m_X6_years) (as := [.ref 0, .int 7, .int 18, .int 0]) (rest := [.long (31 * ((31 * ((31 * ((31 * ((31 * ((31 * ((31 * ((31 * ((31 * ((31 * ((31 * ((31 * ((31 * ((31 * a) + x1.toInt64)) + x4.toInt64)) + x7.toInt64)) + x10.toInt64)) + x13.toInt64)) + x16.toInt64)) + x19.toInt64)) + x22.toInt64)) + x25.toInt64)) + x28.toInt64)) + x31.toInt64)) + x34.toInt64)) + x37.toInt64))]) rfl rfl (KI_years h39 7 18 0) (fun x40 s41 h42 => ?_)
  refine UPB.stp 10 (i1 := 133) (L1 := [some (.ref 0), some (.long a), none, some (.long ((31 * ((31 * ((31 * ((31 * ((31 * ((31 * ((31 * ((31 * ((31 * ((31 * ((31 * ((31 * ((31 * ((31 * a) + x1.toInt64)) + x4.toInt64)) + x7.toInt64)) + x10.toInt64)) + x13.toInt64)) + x16.toInt64)) + x19.toInt64)) + x22.toInt64)) + x25.toInt64)) + x28.toInt64)) + x31.toInt64)) + x34.toInt64)) + x37.toInt64)) + x40.toInt64)), none]) (st1 := [.int 1, .int 18, .int 7, .ref 0, .long (31 * ((31 * ((31 * ((31 * ((31 * ((31 * ((31 * ((31 * ((31 * ((31 * ((31 * ((31 * ((31 * ((31 * ((31 * a) + x1.toInt64)) + x4.toInt64)) + x7.toInt64)) + x10.toInt64)) + x13.toInt64)) + x16.toInt64)) + x19.toInt64)) + x22.toInt64)) + x25.toInt64)) + x28.toInt64)) + x31.toInt64)) + x34.toInt64)) + x37.toInt64)) + x40.toInt64))]) (s1 := s41) rfl ?_
  refine UPB.cI (M1 := m_X6_years) (as := [.ref 0, .int 7, .int 18, .int 1]) (rest := [.long (31 * ((31 * ((31 * ((31 * ((31 * ((31 * ((31 * ((31 * ((31 * ((31 * ((31 * ((31 * ((31 * ((31 * ((31 * a) + x1.toInt64)) + x4.toInt64)) + x7.toInt64)) + x10.toInt64)) + x13.toInt64)) + x16.toInt64)) + x19.toInt64)) + x22.toInt64)) + x25.toInt64)) + x28.toInt64)) + x31.toInt64)) + x34.toInt64)) + x37.toInt64)) + x40.toInt64))]) rfl rfl (KI_years h42 7 18 1) (fun x43 s44 h45 => ?_)
  refine UPB.stp 2 (i1 := 136) (L1 := [some (.ref 0), some (.long a), none, some (.long ((31 * ((31 * ((31 * ((31 * ((31 * ((31 * ((31 * ((31 * ((31 * ((31 * ((31 * ((31 * ((31 * ((31 * a) + x1.toInt64)) + x4.toInt64)) + x7.toInt64)) + x10.toInt64)) + x13.toInt64)) + x16.toInt64)) + x19.toInt64)) + x22.toInt64)) + x25.toInt64)) + x28.toInt64)) + x31.toInt64)) + x34.toInt64)) + x37.toInt64)) + x40.toInt64)), none]) (st1 := [.long ((31 * ((31 * ((31 * ((31 * ((31 * ((31 * ((31 * ((31 * ((31 * ((31 * ((31 * ((31 * ((31 * ((31 * ((31 * a) + x1.toInt64)) + x4.toInt64)) + x7.toInt64)) + x10.toInt64)) + x13.toInt64)) + x16.toInt64)) + x19.toInt64)) + x22.toInt64)) + x25.toInt64)) + x28.toInt64)) + x31.toInt64)) + x34.toInt64)) + x37.toInt64)) + x40.toInt64)) + x43.toInt64)]) (s1 := s44) rfl ?_
  exact UPB.ret (r := some (.long ((31 * ((31 * ((31 * ((31 * ((31 * ((31 * ((31 * ((31 * ((31 * ((31 * ((31 * ((31 * ((31 * ((31 * ((31 * a) + x1.toInt64)) + x4.toInt64)) + x7.toInt64)) + x10.toInt64)) + x13.toInt64)) + x16.toInt64)) + x19.toInt64)) + x22.toInt64)) + x25.toInt64)) + x28.toInt64)) + x31.toInt64)) + x34.toInt64)) + x37.toInt64)) + x40.toInt64)) + x43.toInt64))) rfl ⟨⟨_, rfl⟩, h45⟩
theorem KL_digest_hd : ∀ n, (∀ (v1 : Int64) (u2 : Option Value) (v3 : Int32) (s : SG), KF s → UPB n m_X6_digest 4 [some (.ref 0), some (.long v1), u2, some (.int v3)] [] s KL) ∧ (∀ (v1 : Int64) (u2 : Option Value) (v3 : Int32) (s : SG), KF s → UPB n m_X6_digest 20 [some (.ref 0), some (.long v1), u2, some (.int v3)] [] s KL) ∧ (∀ (v1 : Int64) (u2 : Option Value) (v3 : Int32) (s : SG), KF s → UPB n m_X6_digest 40 [some (.ref 0), some (.long v1), u2, some (.int v3)] [] s KL) := by
  intro n
  induction n with
  | zero => exact ⟨fun _ _ _ _ _ => UPB.zero, fun _ _ _ _ _ => UPB.zero, fun _ _ _ _ _ => UPB.zero⟩
  | succ n ih =>
    obtain ⟨IH4, IH20, IH40⟩ := ih
    refine ⟨?_, ?_, ?_⟩
    · intro v1 u2 v3 s h
      refine UPB.hd 1 (i1 := 6) (L1 := [some (.ref 0), some (.long v1), u2, some (.int v3)]) (st1 := [.int 8, .int v3]) (s1 := s) rfl ?_
      refine UPB.ic rfl ?_ ?_
      · skip
        refine UPB.stp 2 (i1 := 20) (L1 := [some (.ref 0), some (.long v1), u2, some (.int 0)]) (st1 := []) (s1 := s) rfl ?_
        exact IH20 v1 u2 0 s h
      · skip
        refine UPB.stp 5 (i1 := 12) (L1 := [some (.ref 0), some (.long v1), u2, some (.int v3)]) (st1 := [.int v3, .ref 0, .long (31 * v1)]) (s1 := s) rfl ?_
        refine UPB.cI (M1 := m_X6_count) (as := [.ref 0, .int v3]) (rest := [.long (31 * v1)]) rfl rfl (KI_count h v3) (fun x1 s2 h3 => ?_)
        refine UPB.stp 5 (i1 := 4) (L1 := [some (.ref 0), some (.long ((31 * v1) + x1.toInt64)), u2, some (.int (v3 + 1))]) (st1 := []) (s1 := s2) rfl ?_
        exact IH4 ((31 * v1) + x1.toInt64) u2 (v3 + 1) s2 h3
    · intro v1 u2 v3 s h
      refine UPB.hd 1 (i1 := 22) (L1 := [some (.ref 0), some (.long v1), u2, some (.int v3)]) (st1 := [.int 3, .int v3]) (s1 := s) rfl ?_
      refine UPB.ic rfl ?_ ?_
      · skip
        refine UPB.stp 2 (i1 := 36) (L1 := [some (.ref 0), some (.long v1), u2, some (.int v3)]) (st1 := [.long v1, .ref 0]) (s1 := s) rfl ?_
        refine UPB.cL (M1 := m_X6_addMinutes) (as := [.ref 0, .long v1]) (rest := []) rfl rfl (KL_addMinutes h v1) (fun x4 s5 h6 => ?_)
        refine UPB.stp 3 (i1 := 40) (L1 := [some (.ref 0), some (.long x4), u2, some (.int 0)]) (st1 := []) (s1 := s5) rfl ?_
        exact IH40 x4 u2 0 s5 h6
      · skip
        refine UPB.stp 5 (i1 := 28) (L1 := [some (.ref 0), some (.long v1), u2, some (.int v3)]) (st1 := [.int v3, .ref 0, .long (31 * v1)]) (s1 := s) rfl ?_
        refine UPB.cI (M1 := m_X6_fault) (as := [.ref 0, .int v3]) (rest := [.long (31 * v1)]) rfl rfl (KI_fault h v3) (fun x7 s8 h9 => ?_)
        refine UPB.stp 5 (i1 := 20) (L1 := [some (.ref 0), some (.long ((31 * v1) + x7.toInt64)), u2, some (.int (v3 + 1))]) (st1 := []) (s1 := s8) rfl ?_
        exact IH20 ((31 * v1) + x7.toInt64) u2 (v3 + 1) s8 h9
    · intro v1 u2 v3 s h
      refine UPB.hd 3 (i1 := 44) (L1 := [some (.ref 0), some (.long v1), u2, some (.int v3)]) (st1 := [.int (s 10 0), .int v3]) (s1 := s) rfl ?_
      refine UPB.ic rfl ?_ ?_
      · skip
        refine UPB.stp 3 (i1 := 55) (L1 := [some (.ref 0), some (.long v1), u2, some (.int v3)]) (st1 := [.int 2, .long v1, .ref 0]) (s1 := s) rfl ?_
        refine UPB.cL (M1 := m_X6_addPlans) (as := [.ref 0, .long v1, .int 2]) (rest := []) rfl rfl (KL_addPlans h v1 2) (fun x10 s11 h12 => ?_)
        refine UPB.stp 4 (i1 := 60) (L1 := [some (.ref 0), some (.long x10), u2, some (.int v3)]) (st1 := [.int 10, .long x10, .ref 0]) (s1 := s11) rfl ?_
        refine UPB.cL (M1 := m_X6_addPlans) (as := [.ref 0, .long x10, .int 10]) (rest := []) rfl rfl (KL_addPlans h12 x10 10) (fun x13 s14 h15 => ?_)
        refine UPB.stp 3 (i1 := 64) (L1 := [some (.ref 0), some (.long x13), u2, some (.int v3)]) (st1 := [.long x13, .ref 0]) (s1 := s14) rfl ?_
        refine UPB.cL (M1 := m_X6_addWhole) (as := [.ref 0, .long x13]) (rest := []) rfl rfl (KL_addWhole h15 x13) (fun x16 s17 h18 => ?_)
        exact UPB.ret (r := some (.long x16)) rfl ⟨⟨_, rfl⟩, h18⟩
      · skip
        refine UPB.stp 3 (i1 := 48) (L1 := [some (.ref 0), some (.long v1), u2, some (.int v3)]) (st1 := [.int v3, .long v1, .ref 0]) (s1 := s) rfl ?_
        refine UPB.cL (M1 := m_X6_addRower) (as := [.ref 0, .long v1, .int v3]) (rest := []) rfl rfl (KL_addRower h v1 v3) (fun x19 s20 h21 => ?_)
        refine UPB.stp 3 (i1 := 40) (L1 := [some (.ref 0), some (.long x19), u2, some (.int (v3 + 1))]) (st1 := []) (s1 := s20) rfl ?_
        exact IH40 x19 u2 (v3 + 1) s20 h21
theorem KL_digest {s : SG} (h : KF s)  : UP m_X6_digest 0 (m_ent 4 [.ref 0]) [] s KL := by
  refine UP.of_b (fun n => ?_)
  obtain ⟨IH4, IH20, IH40⟩ := KL_digest_hd n
  refine UPB.stp 4 (i1 := 4) (L1 := [some (.ref 0), some (.long 17), none, some (.int 0)]) (st1 := []) (s1 := s) rfl ?_
  exact IH4 17 none 0 s h
end
section
/-! THE INVARIANT OF ALL CALLS: ranges (J1), and all that is kept alike (KF) -/
def frzF (f : AF) : Bool := match f with
  | .inl _ => true
  | .inr (_, _, fz) => fz
def frzAll (c : AC) : Bool := match c with
  | .inl (_, _, _, _, fz) => fz
  | .inr (.inr (_, fs)) => fs.all frzF
  | _ => false
theorem cI_cong {h h1 : MH} {a : Nat} (e : h1[a]? = h[a]?) (j : Nat) : cI h1 a j = cI h a j := by unfold cI; rw [e]
theorem cI_fz {H : AH} {h h1 : MH} {ci k a : Nat} {lo hi : Int} (f : fH H h h1) (g : gH H h) (g1 : gH H h1) (hf : a_fd H ci k a = some (.inr (lo, hi, true))) : cI h1 a k = cI h a k := by
  obtain ⟨fs, vs, v, hc, hfk, hx, -, hv, -, -⟩ := fd_sp g hf
  obtain ⟨fs2, ws, w, hc2, -, hy, -, hw, -, -⟩ := fd_sp g1 hf
  obtain ⟨us, e1, e2⟩ := f a _ _ _ hc hx hy ci vs rfl
  cases e1
  have e3 := e2 k _ hfk (fun l u q => by cases q)
  unfold cI
  rw [hx, hy]
  dsimp only
  rw [e3]
theorem cI_all {H : AH} {h h1 : MH} {a : Nat} {c : AC} (f : fH H h h1) (g : gH H h) (g1 : gH H h1) (hc : H[a]? = some c) (hz : frzAll c = true) (j : Nat) : cI h1 a j = cI h a j := by
  rcases c with ⟨t, n, lo, hi, fz⟩ | ⟨t, rs⟩ | ⟨ci, fs⟩
  · have hz : fz = true := hz
    subst hz
    exact cI_cong (cell_fz f g g1 hc) j
  · cases hz
  · obtain ⟨x, hx, vs, e, hl, hb⟩ := g.2 a _ hc
    obtain ⟨y, hy, ws, e', hl', hb'⟩ := g1.2 a _ hc
    subst e
    subst e'
    by_cases hj : j < fs.length
    · have hfj : fs[j]? = some fs[j] := List.getElem?_eq_getElem hj
      have hz := List.all_eq_true.mp hz _ (List.getElem_mem hj)
      obtain ⟨v, hv, gv⟩ := hb j _ hfj
      obtain ⟨w, hw, gw⟩ := hb' j _ hfj
      cases hq : fs[j] with
      | inl r =>
        rw [hq] at gv gw
        unfold cI
        rw [hx, hy]
        dsimp only
        rw [hv, hw]
        have ev : v = .ref r := gv
        have ew : w = .ref r := gw
        rw [ev, ew]
      | inr p =>
        obtain ⟨lo, hi, fz⟩ := p
        rw [hq] at hz hfj
        have hz : fz = true := hz
        subst hz
        exact cI_fz (ci := ci) (lo := lo) (hi := hi) f g g1 (by
          unfold a_fd
          rw [hc]
          dsimp only
          rw [if_pos rfl, hfj])
    · unfold cI
      rw [hx, hy]
      dsimp only
      rw [List.getElem?_eq_none (by omega), List.getElem?_eq_none (by omega)]
def frzW (H : AH) (w : Nat × Nat × Option Nat) : Bool := (List.range (w.2.1 + 1)).all (fun a => Nat.blt a w.1 || (match w.2.2 with
  | none => (match H[a]? with | some c => frzAll c | none => false)
  | some k => (match H[a]? with | some (.inr (.inr (_, fs))) => (match fs[k]? with | some (.inr (_, _, true)) => true | _ => false) | _ => false)))
theorem ag_fz {H : AH} {h h1 : MH} (D : LW) (hD : D.all (frzW H) = true) (f : fH H h h1) (g : gH H h) (g1 : gH H h1) : Ag D (cI h) (cI h1) := fun a j q => by
  obtain ⟨⟨lo, hi, p⟩, w1, w2⟩ := List.any_eq_true.mp q
  obtain ⟨a1, c⟩ := b_and w2
  obtain ⟨a2, e⟩ := b_and c
  have a1 : lo ≤ a := Nat.ble_eq.mp a1
  have a2 : a ≤ hi := Nat.ble_eq.mp a2
  have k := List.all_eq_true.mp (List.all_eq_true.mp hD _ w1) a (List.mem_range.mpr (by show a < hi + 1; omega))
  rcases (Bool.or_eq_true _ _).mp k with k | k
  · have k : a < lo := by simpa [Nat.blt_eq] using k
    omega
  · cases p with
    | none =>
      have k : (match H[a]? with | some c => frzAll c | none => false) = true := k
      cases hc : H[a]? with
      | none => rw [hc] at k; cases k
      | some c =>
        rw [hc] at k
        exact cI_all f g g1 hc k j
    | some m =>
      have e : m = j := by simpa using e
      subst e
      have k : (match H[a]? with | some (.inr (.inr (_, fs))) => (match fs[m]? with | some (.inr (_, _, true)) => true | _ => false) | _ => false) = true := k
      split at k
      · rename_i ci fs hc
        split at k
        · rename_i lo2 hi2 hf
          exact cI_fz (ci := ci) (lo := lo2) (hi := hi2) f g g1 (by
            unfold a_fd
            rw [hc]
            dsimp only
            rw [if_pos rfl, hf])
        · cases k
      · cases k
theorem ag_from {h h1 : MH} (D : LW) (hD : D.all (fun w => Nat.ble 123 w.1) = true) (s : sameFrom 123 h h1) : Ag D (cI h) (cI h1) := fun a j q => by
  obtain ⟨w, w1, w2⟩ := List.any_eq_true.mp q
  obtain ⟨a1, -⟩ := b_and w2
  have k := Nat.ble_eq.mp (List.all_eq_true.mp hD _ w1)
  have a1 := Nat.ble_eq.mp a1
  exact cI_cong (s a (by omega)) j
theorem ag_to {h h1 : MH} (D : LW) (hD : D.all (fun w => Nat.blt w.2.1 123) = true) (s : sameTo 123 h h1) : Ag D (cI h) (cI h1) := fun a j q => by
  obtain ⟨w, w1, w2⟩ := List.any_eq_true.mp q
  obtain ⟨-, c⟩ := b_and w2
  obtain ⟨a2, -⟩ := b_and c
  have k : w.2.1 < 123 := by simpa [Nat.blt_eq] using List.all_eq_true.mp hD _ w1
  have a2 := Nat.ble_eq.mp a2
  exact cI_cong (s a (by omega)) j
theorem Ag.app {D1 D2 : LW} {s s1 : SG} (a : Ag D1 s s1) (b : Ag D2 s s1) : Ag (D1 ++ D2) s s1 := fun x j q => by
  have q : (D1 ++ D2).any (fun w => Nat.ble w.1 x && (Nat.ble x w.2.1 && (match w.2.2 with | none => true | some k => k == j))) = true := q
  rw [List.any_append] at q
  rcases (Bool.or_eq_true _ _).mp q with q | q
  · exact a x j q
  · exact b x j q
def DFc : LW := [(0, 0, some 4), (0, 0, some 12), (0, 0, some 13), (2, 2, some 3), (3, 5, none), (6, 6, some 2), (7, 8, none), (10, 10, some 0), (10, 10, some 5), (10, 10, some 6), (11, 14, none), (15, 15, some 8), (16, 20, none), (22, 47, none), (96, 96, none), (109, 114, none), (115, 122, none)]
def DGm : LW := [(123, 123, some 9), (123, 123, some 10), (123, 123, some 11), (123, 123, some 37), (123, 123, some 46), (124, 125, none), (130, 132, none), (145, 146, none), (148, 151, none)]
theorem fz_M : DGm.all (frzW HM) = true := by decide +kernel
def JK (h : MH) : Prop := J1 h ∧ KF (cI h)
theorem JK.c (h : MH) (j : JK h) : gH HCs h := j.1.1
theorem JK.m (h : MH) (j : JK h) : gH HMs h := j.1.2.1
theorem JK_M : Jst JK HM := fun h h1 j g1 f => ⟨J1_M h h1 j.1 g1 f, j.2.ag (((ag_to DFc rfl (to_of any_M f (gH.eq eq_HMr j.1.2.1) g1)).app (ag_fz DGm fz_M f (gH.eq eq_HMr j.1.2.1) g1)).sub rfl)⟩
theorem RP.uq {M : MM} {y : Nat} {L : ML} {h : MH} {P : Option Value → MH → Prop} {Q : Option Value → SG → Prop} (k : RP M 0 L [] h P) (hy : m_tab[y]? = some M) (my : y ∈ msU) (g : gH HU h) (u : UP M 0 L [] (cI h) Q) : RP M 0 L [] h (fun r h1 => P r h1 ∧ Q r (cI h1)) := by
  obtain ⟨r, h1, ⟨n, hn⟩, p⟩ := k
  obtain ⟨a, -⟩ := usim n y M 0 L L [] h r h1 my hy g (lqL.rf _) hn
  exact ⟨r, h1, ⟨n, hn⟩, p, u n _ a⟩
section PK
variable {y1 y2 : Nat} {M1 M2 : MM} {as : List Value} {h : MH}
/-- a pair of calls, both told as functions -/
theorem up_q {T : Option Value → Option Value → Prop} {c : Int32 × SG} {m : SG → Int32 × SG} (p : PairOK J1 T y1 y2 as h) (hJ : JK h) (e1 : m_tab[y1]? = some M1) (e2 : m_tab[y2]? = some M2) (m1 : y1 ∈ msU) (m2 : y2 ∈ msU) (kx : UP M1 0 (m_ent (mx M1) (.ref 0 :: as)) [] (cI h) (Qb c)) (km : UP M2 0 (m_ent (mx M2) (.ref 123 :: as)) [] c.2 (Qb (m c.2))) (q : QK c m) : PairOK JK TE y1 y2 as h := by
  refine PairOK.up (K := KF) (T' := TE) (QX := Qb c) (QY := fun _ _ => Qb (m c.2)) p hJ.1 e1 e2 m1 m2 kx (fun r s1 a => by rw [a.2]; exact km) (fun r s1 r2 h2 a b _ _ => ⟨⟨c.1, a.1, ?_⟩, ?_⟩)
  · rw [b.1, q.2]
  · rw [b.2]; exact q.1
/-- and only what is kept -/
theorem up_k {T : Option Value → Option Value → Prop} {c : Int32 × SG} {m : SG → Int32 × SG} (p : PairOK J1 T y1 y2 as h) (hJ : JK h) (e1 : m_tab[y1]? = some M1) (e2 : m_tab[y2]? = some M2) (m1 : y1 ∈ msU) (m2 : y2 ∈ msU) (kx : UP M1 0 (m_ent (mx M1) (.ref 0 :: as)) [] (cI h) (Qb c)) (km : UP M2 0 (m_ent (mx M2) (.ref 123 :: as)) [] c.2 (Qb (m c.2))) (q : KF (m c.2).2) : PairOK JK T y1 y2 as h := by
  refine PairOK.up (K := KF) (T' := T) (QX := Qb c) (QY := fun _ _ => Qb (m c.2)) p hJ.1 e1 e2 m1 m2 kx (fun r s1 a => by rw [a.2]; exact km) (fun r s1 r2 h2 a b t _ => ⟨t, ?_⟩)
  rw [b.2]; exact q
/-- the class told by KF alone, the model by what it leaves -/
theorem up_i (hJ : JK h) (e1 : m_tab[y1]? = some M1) (e2 : m_tab[y2]? = some M2) (b1 : Nat.ble (entL (.ref 0 :: as)).length (mx M1) = true) (b2 : Nat.ble (entL (.ref 123 :: as)).length (mx M2) = true) (m1 : y1 ∈ msU) (kx : SPi HC M1 (.ref 0 :: as) h) (ux : UP M1 0 (m_ent (mx M1) (.ref 0 :: as)) [] (cI h) KI) (km : ∀ h1, JK h1 → SPi HM M2 (.ref 123 :: as) h1) : PairOK JK TA y1 y2 as h := by
  refine pair_rp (PX := fun r h1 => (∃ v, r = some (.int v)) ∧ JK h1) hJ.1.1 e1 e2 b1 b2 ((RP.uq kx e1 m1 (hu_of hJ.1.1 hJ.1.2.1) ux).mono (fun r h1 q => ⟨q.1.1, J1_C h h1 hJ.1 q.1.2.1 q.1.2.2, q.2.2⟩)) (fun r h1 q => q.2.1.2.1) (fun r h1 q => ?_)
  exact (km h1 q.2).mono (fun r2 h2 w => ⟨⟨q.1, w.1⟩, JK_M h1 h2 q.2 w.2.1 w.2.2⟩)
theorem up_l (hJ : JK h) (e1 : m_tab[y1]? = some M1) (e2 : m_tab[y2]? = some M2) (b1 : Nat.ble (entL (.ref 0 :: as)).length (mx M1) = true) (b2 : Nat.ble (entL (.ref 123 :: as)).length (mx M2) = true) (m1 : y1 ∈ msU) (kx : SPl HC M1 (.ref 0 :: as) h) (ux : UP M1 0 (m_ent (mx M1) (.ref 0 :: as)) [] (cI h) KL) (km : ∀ h1, JK h1 → SPl HM M2 (.ref 123 :: as) h1) : PairOK JK TL y1 y2 as h := by
  refine pair_rp (PX := fun r h1 => (∃ v, r = some (.long v)) ∧ JK h1) hJ.1.1 e1 e2 b1 b2 ((RP.uq kx e1 m1 (hu_of hJ.1.1 hJ.1.2.1) ux).mono (fun r h1 q => ⟨q.1.1, J1_C h h1 hJ.1 q.1.2.1 q.1.2.2, q.2.2⟩)) (fun r h1 q => q.2.1.2.1) (fun r h1 q => ?_)
  exact (km h1 q.2).mono (fun r2 h2 w => ⟨⟨q.1, w.1⟩, JK_M h1 h2 q.2 w.2.1 w.2.2⟩)
end PK
end
section
/-! every pair of calls under JK (printed by wip/u/mk_pk.py) -/
theorem kbX {x y : Int32 × SG} {b : Bool} (h1 : KX x.2) (h2 : KX y.2) : KX (bif b then x else y).2 := by
  cases b
  · exact h2
  · exact h1
theorem bad_type {s : SG} {t b : Int32} (hb : bl t 3 = false) : F_type s t b = ((-2), s) := by
  dsimp only [F_type]
  rw [isX_e, hb, lF, kT]
theorem bad_wipe {s : SG} {t : Int32} (hb : bl t 3 = false) : F_wipe s t = ((-2), s) := by
  dsimp only [F_wipe]
  rw [isX_n, hb, kF]
theorem bad_undo {s : SG} {t : Int32} (hb : bl t 3 = false) : F_undo s t = ((-2), s) := by
  dsimp only [F_undo]
  rw [isX_n, hb, kF]
theorem kx_type_0 {s : SG} (h : KX s) (b : Int32) : KX (F_ctype_0 s b).2 := by
  dsimp only [F_ctype_0]
  exact kbX h (kbX (kbX (KX.mark _) h) h)
theorem kx_type_1 {s : SG} (h : KX s) (b : Int32) : KX (F_ctype_1 s b).2 := by
  dsimp only [F_ctype_1]
  exact kbX h (kbX (kbX (KX.mark _) h) h)
theorem kx_type_2 {s : SG} (h : KX s) (b : Int32) : KX (F_ctype_2 s b).2 := by
  dsimp only [F_ctype_2]
  exact kbX h (kbX (kbX (KX.mark _) h) h)
theorem k_type {s : SG} (h : KF s) (t : Int32) (b : Int32) : KF (F_type (F_ctype s t b).2 t b).2 := by
  unfold F_ctype
  by_cases e0 : t = 0
  · rw [if_pos e0, e0]
    have K := kty_0 b h.1.1 h.1.2.1
    have f1 := fr_ctype_0 s b
    have x := kx_type_0 h.2 b
    generalize (F_ctype_0 s b).2 = c at *
    have f2 := fr_type c 0 b
    exact ⟨⟨K.1, K.2, h.1.2.2.1.ag ((f1.ag DE rfl).tr (f2.ag DE rfl)), h.1.2.2.2.1.ag ((f1.ag DS rfl).tr (f2.ag DS rfl)), h.1.2.2.2.2.ag ((f1.ag DH rfl).tr (f2.ag DH rfl))⟩, x.ag (f2.ag DX rfl)⟩
  by_cases e1 : t = 1
  · rw [if_neg e0, if_pos e1, e1]
    have K := kty_1 b h.1.1 h.1.2.1
    have f1 := fr_ctype_1 s b
    have x := kx_type_1 h.2 b
    generalize (F_ctype_1 s b).2 = c at *
    have f2 := fr_type c 1 b
    exact ⟨⟨K.1, K.2, h.1.2.2.1.ag ((f1.ag DE rfl).tr (f2.ag DE rfl)), h.1.2.2.2.1.ag ((f1.ag DS rfl).tr (f2.ag DS rfl)), h.1.2.2.2.2.ag ((f1.ag DH rfl).tr (f2.ag DH rfl))⟩, x.ag (f2.ag DX rfl)⟩
  by_cases e2 : t = 2
  · rw [if_neg e0, if_neg e1, if_pos e2, e2]
    have K := kty_2 b h.1.1 h.1.2.1
    have f1 := fr_ctype_2 s b
    have x := kx_type_2 h.2 b
    generalize (F_ctype_2 s b).2 = c at *
    have f2 := fr_type c 2 b
    exact ⟨⟨K.1, K.2, h.1.2.2.1.ag ((f1.ag DE rfl).tr (f2.ag DE rfl)), h.1.2.2.2.1.ag ((f1.ag DS rfl).tr (f2.ag DS rfl)), h.1.2.2.2.2.ag ((f1.ag DH rfl).tr (f2.ag DH rfl))⟩, x.ag (f2.ag DX rfl)⟩
  rw [if_neg e0, if_neg e1, if_neg e2]
  have hb : bl t 3 = false := by
    cases q : bl t 3 with
    | false => rfl
    | true =>
      rcases bl_3.mp q with w | w | w
      · exact absurd w e0
      · exact absurd w e1
      · exact absurd w e2
  dsimp only
  rw [bad_type hb]
  exact h
theorem kx_wipe_0 {s : SG} (h : KX s) : KX (F_cwipe_0 s).2 := by
  dsimp only [F_cwipe_0]
  exact kbX (KX.mark _) h
theorem kx_wipe_1 {s : SG} (h : KX s) : KX (F_cwipe_1 s).2 := by
  dsimp only [F_cwipe_1]
  exact kbX (KX.mark _) h
theorem kx_wipe_2 {s : SG} (h : KX s) : KX (F_cwipe_2 s).2 := by
  dsimp only [F_cwipe_2]
  exact kbX (KX.mark _) h
theorem k_wipe {s : SG} (h : KF s) (t : Int32) : KF (F_wipe (F_cwipe s t).2 t).2 := by
  unfold F_cwipe
  by_cases e0 : t = 0
  · rw [if_pos e0, e0]
    have K := kwi_0 h.1.1 h.1.2.1
    have f1 := fr_cwipe_0 s
    have x := kx_wipe_0 h.2
    generalize (F_cwipe_0 s).2 = c at *
    have f2 := fr_wipe c 0
    exact ⟨⟨K.1, K.2, h.1.2.2.1.ag ((f1.ag DE rfl).tr (f2.ag DE rfl)), h.1.2.2.2.1.ag ((f1.ag DS rfl).tr (f2.ag DS rfl)), h.1.2.2.2.2.ag ((f1.ag DH rfl).tr (f2.ag DH rfl))⟩, x.ag (f2.ag DX rfl)⟩
  by_cases e1 : t = 1
  · rw [if_neg e0, if_pos e1, e1]
    have K := kwi_1 h.1.1 h.1.2.1
    have f1 := fr_cwipe_1 s
    have x := kx_wipe_1 h.2
    generalize (F_cwipe_1 s).2 = c at *
    have f2 := fr_wipe c 1
    exact ⟨⟨K.1, K.2, h.1.2.2.1.ag ((f1.ag DE rfl).tr (f2.ag DE rfl)), h.1.2.2.2.1.ag ((f1.ag DS rfl).tr (f2.ag DS rfl)), h.1.2.2.2.2.ag ((f1.ag DH rfl).tr (f2.ag DH rfl))⟩, x.ag (f2.ag DX rfl)⟩
  by_cases e2 : t = 2
  · rw [if_neg e0, if_neg e1, if_pos e2, e2]
    have K := kwi_2 h.1.1 h.1.2.1
    have f1 := fr_cwipe_2 s
    have x := kx_wipe_2 h.2
    generalize (F_cwipe_2 s).2 = c at *
    have f2 := fr_wipe c 2
    exact ⟨⟨K.1, K.2, h.1.2.2.1.ag ((f1.ag DE rfl).tr (f2.ag DE rfl)), h.1.2.2.2.1.ag ((f1.ag DS rfl).tr (f2.ag DS rfl)), h.1.2.2.2.2.ag ((f1.ag DH rfl).tr (f2.ag DH rfl))⟩, x.ag (f2.ag DX rfl)⟩
  rw [if_neg e0, if_neg e1, if_neg e2]
  have hb : bl t 3 = false := by
    cases q : bl t 3 with
    | false => rfl
    | true =>
      rcases bl_3.mp q with w | w | w
      · exact absurd w e0
      · exact absurd w e1
      · exact absurd w e2
  dsimp only
  rw [bad_wipe hb]
  exact h
theorem kx_undo_0 {s : SG} (h : KX s) : KX (F_cundo_0 s).2 := by
  dsimp only [F_cundo_0]
  exact kbX (kbX (KX.mark _) h) h
theorem kx_undo_1 {s : SG} (h : KX s) : KX (F_cundo_1 s).2 := by
  dsimp only [F_cundo_1]
  exact kbX (kbX (KX.mark _) h) h
theorem kx_undo_2 {s : SG} (h : KX s) : KX (F_cundo_2 s).2 := by
  dsimp only [F_cundo_2]
  exact kbX (kbX (KX.mark _) h) h
theorem k_undo {s : SG} (h : KF s) (t : Int32) : KF (F_undo (F_cundo s t).2 t).2 := by
  unfold F_cundo
  by_cases e0 : t = 0
  · rw [if_pos e0, e0]
    have K := kun_0 h.1.1 h.1.2.1
    have f1 := fr_cundo_0 s
    have x := kx_undo_0 h.2
    generalize (F_cundo_0 s).2 = c at *
    have f2 := fr_undo c 0
    exact ⟨⟨K.1, K.2, h.1.2.2.1.ag ((f1.ag DE rfl).tr (f2.ag DE rfl)), h.1.2.2.2.1.ag ((f1.ag DS rfl).tr (f2.ag DS rfl)), h.1.2.2.2.2.ag ((f1.ag DH rfl).tr (f2.ag DH rfl))⟩, x.ag (f2.ag DX rfl)⟩
  by_cases e1 : t = 1
  · rw [if_neg e0, if_pos e1, e1]
    have K := kun_1 h.1.1 h.1.2.1
    have f1 := fr_cundo_1 s
    have x := kx_undo_1 h.2
    generalize (F_cundo_1 s).2 = c at *
    have f2 := fr_undo c 1
    exact ⟨⟨K.1, K.2, h.1.2.2.1.ag ((f1.ag DE rfl).tr (f2.ag DE rfl)), h.1.2.2.2.1.ag ((f1.ag DS rfl).tr (f2.ag DS rfl)), h.1.2.2.2.2.ag ((f1.ag DH rfl).tr (f2.ag DH rfl))⟩, x.ag (f2.ag DX rfl)⟩
  by_cases e2 : t = 2
  · rw [if_neg e0, if_neg e1, if_pos e2, e2]
    have K := kun_2 h.1.1 h.1.2.1
    have f1 := fr_cundo_2 s
    have x := kx_undo_2 h.2
    generalize (F_cundo_2 s).2 = c at *
    have f2 := fr_undo c 2
    exact ⟨⟨K.1, K.2, h.1.2.2.1.ag ((f1.ag DE rfl).tr (f2.ag DE rfl)), h.1.2.2.2.1.ag ((f1.ag DS rfl).tr (f2.ag DS rfl)), h.1.2.2.2.2.ag ((f1.ag DH rfl).tr (f2.ag DH rfl))⟩, x.ag (f2.ag DX rfl)⟩
  rw [if_neg e0, if_neg e1, if_neg e2]
  have hb : bl t 3 = false := by
    cases q : bl t 3 with
    | false => rfl
    | true =>
      rcases bl_3.mp q with w | w | w
      · exact absurd w e0
      · exact absurd w e1
      · exact absurd w e2
  dsimp only
  rw [bad_undo hb]
  exact h
theorem pk_type {h : MH} (hJ : JK h) (a : Int32) (b : Int32) (p : PairOK J1 TE 31 101 [.int a, .int b] h) : PairOK JK TE 31 101 [.int a, .int b] h := up_k (M1 := m_X6_type) (M2 := m_X7_type) (c := F_ctype (cI h) a b) (m := fun y => F_type y a b) p hJ rfl rfl (by decide) (by decide) (ux_ctype _ a b) (ux_type _ a b) (k_type hJ.2 a b)
theorem pk_wipe {h : MH} (hJ : JK h) (a : Int32) (p : PairOK J1 TE 32 102 [.int a] h) : PairOK JK TE 32 102 [.int a] h := up_k (M1 := m_X6_wipe) (M2 := m_X7_wipe) (c := F_cwipe (cI h) a) (m := fun y => F_wipe y a) p hJ rfl rfl (by decide) (by decide) (ux_cwipe _ a) (ux_wipe _ a) (k_wipe hJ.2 a)
theorem pk_undo {h : MH} (hJ : JK h) (a : Int32) (p : PairOK J1 TE 33 103 [.int a] h) : PairOK JK TE 33 103 [.int a] h := up_k (M1 := m_X6_undo) (M2 := m_X7_undo) (c := F_cundo (cI h) a) (m := fun y => F_undo y a) p hJ rfl rfl (by decide) (by decide) (ux_cundo _ a) (ux_undo _ a) (k_undo hJ.2 a)
theorem pk_fault {h : MH} (hJ : JK h) (a : Int32) (p : PairOK J1 TA 34 112 [.int a] h) : PairOK JK TE 34 112 [.int a] h := up_q (M1 := m_X6_fault) (M2 := m_X7_fault) (c := (F_cfault (cI h) a, cI h)) (m := fun y => F_fault y a) p hJ rfl rfl (by decide) (by decide) (ux_cfault _ a) (ux_fault _ a) (⟨hJ.2.ag ((fr_fault _ a).ag DF rfl), q_fault hJ.2.1.1.1 a⟩)
theorem pk_rower {h : MH} (hJ : JK h) (a : Int32) (b : Int32) (p : PairOK J1 TA 35 115 [.int a, .int b] h) : PairOK JK TE 35 115 [.int a, .int b] h := up_q (M1 := m_X6_rower) (M2 := m_X7_rower) (c := (F_crower (cI h) a b, cI h)) (m := fun y => F_rower y a b) p hJ rfl rfl (by decide) (by decide) (ux_crower _ a b) (ux_rower _ a b) (⟨hJ.2.ag ((fr_rower _ a b).ag DF rfl), q_rower hJ.2.1.1.1 hJ.2.1.2.1 a b⟩)
theorem pk_call {h : MH} (hJ : JK h) (a : Int32) (b : Int32) (p : PairOK J1 TA 36 117 [.int a, .int b] h) : PairOK JK TE 36 117 [.int a, .int b] h := up_q (M1 := m_X6_call) (M2 := m_X7_call) (c := (F_ccall (cI h) a b, cI h)) (m := fun y => F_call y a b) p hJ rfl rfl (by decide) (by decide) (ux_ccall _ a b) (ux_call _ a b) (⟨hJ.2.ag ((fr_call _ a b).ag DF rfl), q_call hJ.2.1.1.1 hJ.2.1.2.1 a b⟩)
theorem pk_count {h : MH} (hJ : JK h) (a : Int32) (p : PairOK J1 TA 76 181 [.int a] h) : PairOK JK TE 76 181 [.int a] h := up_q (M1 := m_X6_count) (M2 := m_X7_count) (c := (F_ccount (cI h) a, cI h)) (m := fun y => F_count y a) p hJ rfl rfl (by decide) (by decide) (ux_ccount _ a) (ux_count _ a) (⟨hJ.2.ag ((fr_count _ a).ag DF rfl), q_count hJ.2 a⟩)
theorem pk_river {h : MH} (hJ : JK h) (a : Int32) (b : Int32) (p : PairOK J1 TA 37 118 [.int a, .int b] h) : PairOK JK TA 37 118 [.int a, .int b] h := up_k (M1 := m_X6_river) (M2 := m_X7_river) (c := F_criver (cI h) a b) (m := fun y => F_river y a b) p hJ rfl rfl (by decide) (by decide) (ux_criver _ a b) (ux_river _ a b) (k_river hJ.2 a b)
theorem pk_event {h : MH} (hJ : JK h) (a : Int32) (b : Int32) (c : Int32) (p : PairOK J1 TA 40 119 [.int a, .int b, .int c] h) : PairOK JK TE 40 119 [.int a, .int b, .int c] h := up_q (M1 := m_X6_event) (M2 := m_X7_event) (c := F_cevent (cI h) a b c) (m := fun y => F_event y a b c) p hJ rfl rfl (by decide) (by decide) (ux_cevent _ a b c) (ux_event _ a b c) (q_event hJ.2 a b c)
theorem pk_back {h : MH} (hJ : JK h) (p : PairOK J1 TA 41 120 [] h) : PairOK JK TE 41 120 [] h := up_q (M1 := m_X6_back) (M2 := m_X7_back) (c := F_cback (cI h)) (m := fun y => F_back y) p hJ rfl rfl (by decide) (by decide) (ux_cback _) (ux_back _) (q_back hJ.2)
theorem pk_at {h : MH} (hJ : JK h) (a : Int32) (b : Int32) (p : PairOK J1 TA 43 130 [.int a, .int b] h) : PairOK JK TE 43 130 [.int a, .int b] h := up_q (M1 := m_X6_at) (M2 := m_X7_at) (c := F_cat (cI h) a b) (m := fun y => F_at y a b) p hJ rfl rfl (by decide) (by decide) (ux_cat _ a b) (ux_at _ a b) (q_at hJ.2 a b)
theorem pk_pulls {h : MH} (hJ : JK h) (a : Int32) (b : Int32) (p : PairOK J1 TA 44 132 [.int a, .int b] h) : PairOK JK TE 44 132 [.int a, .int b] h := up_q (M1 := m_X6_pulls) (M2 := m_X7_pulls) (c := F_cpulls (cI h) a b) (m := fun y => F_pulls y a b) p hJ rfl rfl (by decide) (by decide) (ux_cpulls _ a b) (ux_pulls _ a b) (q_pulls hJ.2 a b)
theorem pk_done {h : MH} (hJ : JK h) (a : Int32) (b : Int32) (p : PairOK J1 TA 45 134 [.int a, .int b] h) : PairOK JK TE 45 134 [.int a, .int b] h := up_q (M1 := m_X6_done) (M2 := m_X7_done) (c := F_cdone (cI h) a b) (m := fun y => F_done y a b) p hJ rfl rfl (by decide) (by decide) (ux_cdone _ a b) (ux_done _ a b) (q_done hJ.2 a b)
theorem pk_there {h : MH} (hJ : JK h) (p : PairOK J1 TA 46 136 [] h) : PairOK JK TE 46 136 [] h := up_q (M1 := m_X6_there) (M2 := m_X7_there) (c := F_cthere (cI h)) (m := fun y => F_there y) p hJ rfl rfl (by decide) (by decide) (ux_cthere _) (ux_there _) (q_there hJ.2 )
theorem pk_grounded {h : MH} (hJ : JK h) (a : Int32) (p : PairOK J1 TA 47 138 [.int a] h) : PairOK JK TE 47 138 [.int a] h := up_q (M1 := m_X6_grounded) (M2 := m_X7_grounded) (c := F_cgrounded (cI h) a) (m := fun y => F_grounded y a) p hJ rfl rfl (by decide) (by decide) (ux_cgrounded _ a) (ux_grounded _ a) (q_grounded hJ.2 a)
theorem pk_stray {h : MH} (hJ : JK h) (a : Int32) (p : PairOK J1 TA 48 141 [.int a] h) : PairOK JK TE 48 141 [.int a] h := up_q (M1 := m_X6_stray) (M2 := m_X7_stray) (c := F_cstray (cI h) a) (m := fun y => F_stray y a) p hJ rfl rfl (by decide) (by decide) (ux_cstray _ a) (ux_stray _ a) (q_stray hJ.2 a)
theorem pk_idle {h : MH} (hJ : JK h) (p : PairOK J1 TA 50 145 [] h) : PairOK JK TE 50 145 [] h := up_q (M1 := m_X6_idle) (M2 := m_X7_idle) (c := F_cidle (cI h)) (m := fun y => F_idle y) p hJ rfl rfl (by decide) (by decide) (ux_cidle _) (ux_idle _) (q_idle hJ.2 )
theorem pk_best {h : MH} (hJ : JK h) (p : PairOK J1 TA 49 143 [] h) : PairOK JK TA 49 143 [] h := up_k (M1 := m_X6_best) (M2 := m_X7_best) (c := F_cbest (cI h)) (m := fun y => F_best y) p hJ rfl rfl (by decide) (by decide) (ux_cbest _) (ux_best _) (k_best hJ.2)
theorem pk_swap {h : MH} (hJ : JK h) (a : Int32) (p : PairOK J1 TA 51 147 [.int a] h) : PairOK JK TA 51 147 [.int a] h := up_k (M1 := m_X6_swap) (M2 := m_X7_swap) (c := F_cswap (cI h) a) (m := fun y => F_swap y a) p hJ rfl rfl (by decide) (by decide) (ux_cswap _ a) (ux_swap _ a) ((kf_swap hJ.2 a).ag ((fr_swap _ a).ag DF rfl))
theorem pk_steer {h : MH} (hJ : JK h) (a : Int32) (b : Int32) (p : PairOK J1 TA 53 149 [.int a, .int b] h) : PairOK JK TA 53 149 [.int a, .int b] h := up_k (M1 := m_X6_steer) (M2 := m_X7_steer) (c := F_csteer (cI h) a b) (m := fun y => F_steer y a b) p hJ rfl rfl (by decide) (by decide) (ux_csteer _ a b) (ux_steer _ a b) ((kf_steer hJ.2 a b).ag ((fr_steer _ a b).ag DF rfl))
theorem pk_stroke {h : MH} (hJ : JK h) (a : Int32) (b : Int32) (p : PairOK J1 TA 54 151 [.int a, .int b] h) : PairOK JK TA 54 151 [.int a, .int b] h := up_k (M1 := m_X6_stroke) (M2 := m_X7_stroke) (c := F_cstroke (cI h) a b) (m := fun y => F_stroke y a b) p hJ rfl rfl (by decide) (by decide) (ux_cstroke _ a b) (ux_stroke _ a b) ((kf_stroke hJ.2 a b).ag ((fr_stroke _ a b).ag DF rfl))
theorem pk_never {h : MH} (hJ : JK h) (p : PairOK J1 TA 60 160 [] h) : PairOK JK TA 60 160 [] h := up_k (M1 := m_X6_never) (M2 := m_X7_never) (c := F_cnever (cI h)) (m := fun y => F_never y) p hJ rfl rfl (by decide) (by decide) (ux_cnever _) (ux_never _) ((kf_never hJ.2 ).ag ((fr_never _ ).ag DF rfl))
theorem pk_was {h : MH} (hJ : JK h) (a : Int32) (b : Int32) (p : PairOK J1 TA 61 163 [.int a, .int b] h) : PairOK JK TA 61 163 [.int a, .int b] h := up_k (M1 := m_X6_was) (M2 := m_X7_was) (c := F_cwas (cI h) a b) (m := fun y => F_was y a b) p hJ rfl rfl (by decide) (by decide) (ux_cwas _ a b) (ux_was _ a b) ((kf_was hJ.2 a b).ag ((fr_was _ a b).ag DF rfl))
theorem pk_ask {h : MH} (hJ : JK h) (a : Int32) (p : PairOK J1 TA 64 165 [.int a] h) : PairOK JK TA 64 165 [.int a] h := up_k (M1 := m_X6_ask) (M2 := m_X7_ask) (c := F_cask (cI h) a) (m := fun y => F_ask y a) p hJ rfl rfl (by decide) (by decide) (ux_cask _ a) (ux_ask _ a) ((kf_ask hJ.2 a).ag ((fr_ask _ a).ag DF rfl))
theorem pk_years {h : MH} (hJ : JK h) (a : Int32) (b : Int32) (c : Int32) (p : PairOK J1 TA 69 169 [.int a, .int b, .int c] h) : PairOK JK TA 69 169 [.int a, .int b, .int c] h := up_k (M1 := m_X6_years) (M2 := m_X7_years) (c := F_cyears (cI h) a b c) (m := fun y => F_years y a b c) p hJ rfl rfl (by decide) (by decide) (ux_cyears _ a b c) (ux_years _ a b c) ((kf_years hJ.2 a b c).ag ((fr_years _ a b c).ag DF rfl))
theorem pk_seen {h : MH} (hJ : JK h) (a : Int32) (b : Int32) (p : PairOK J1 TA 58 156 [.int a, .int b] h) : PairOK JK TE 58 156 [.int a, .int b] h := up_q (M1 := m_X6_seen) (M2 := m_X7_seen) (c := F_cseen (cI h) a b) (m := fun y => F_seen y a b) p hJ rfl rfl (by decide) (by decide) (ux_cseen _ a b) (ux_seen _ a b) (q_seen hJ.2 a b)
theorem pk_forget {h : MH} (hJ : JK h) (p : PairOK J1 TA 59 157 [] h) : PairOK JK TE 59 157 [] h := up_q (M1 := m_X6_forget) (M2 := m_X7_forget) (c := F_cforget (cI h)) (m := fun y => F_forget y) p hJ rfl rfl (by decide) (by decide) (ux_cforget _) (ux_forget _) (q_forget hJ.2)
theorem pk_sheet {h : MH} (hJ : JK h) (a : Int32) (b : Int32) (c : Int32) (p : PairOK J1 TA 70 172 [.int a, .int b, .int c] h) : PairOK JK TE 70 172 [.int a, .int b, .int c] h := up_q (M1 := m_X6_sheet) (M2 := m_X7_sheet) (c := F_csheet (cI h) a b c) (m := fun y => F_sheet y a b c) p hJ rfl rfl (by decide) (by decide) (ux_csheet _ a b c) (ux_sheet _ a b c) (q_sheet hJ.2 a b c)
theorem pk_lose {h : MH} (hJ : JK h) (a : Int32) (p : PairOK J1 TA 71 173 [.int a] h) : PairOK JK TE 71 173 [.int a] h := up_q (M1 := m_X6_lose) (M2 := m_X7_lose) (c := F_close (cI h) a) (m := fun y => F_lose y a) p hJ rfl rfl (by decide) (by decide) (ux_close _ a) (ux_lose _ a) (q_lose hJ.2 a)
theorem pk_put {h : MH} (hJ : JK h) (a : Int32) (b : Int32) (c : Int32) (d : Int32) (p : PairOK J1 TA 72 176 [.int a, .int b, .int c, .int d] h) : PairOK JK TE 72 176 [.int a, .int b, .int c, .int d] h := up_q (M1 := m_X6_put) (M2 := m_X7_put) (c := F_cput (cI h) a b c d) (m := fun y => F_put y a b c d) p hJ rfl rfl (by decide) (by decide) (ux_cput _ a b c d) (ux_put _ a b c d) (q_put hJ.2 a b c d)
theorem pk_get {h : MH} (hJ : JK h) (a : Int32) (b : Int32) (c : Int32) (p : PairOK J1 TA 73 177 [.int a, .int b, .int c] h) : PairOK JK TE 73 177 [.int a, .int b, .int c] h := up_q (M1 := m_X6_get) (M2 := m_X7_get) (c := F_cget (cI h) a b c) (m := fun y => F_get y a b c) p hJ rfl rfl (by decide) (by decide) (ux_cget _ a b c) (ux_get _ a b c) (q_get hJ.2 a b c)
theorem pk_copy {h : MH} (hJ : JK h) (a : Int32) (b : Int32) (c : Int32) (d : Int32) (e : Int32) (p : PairOK J1 TA 74 178 [.int a, .int b, .int c, .int d, .int e] h) : PairOK JK TE 74 178 [.int a, .int b, .int c, .int d, .int e] h := up_q (M1 := m_X6_copy) (M2 := m_X7_copy) (c := F_ccopy (cI h) a b c d e) (m := fun y => F_copy y a b c d e) p hJ rfl rfl (by decide) (by decide) (ux_ccopy _ a b c d e) (ux_copy _ a b c d e) (q_copy hJ.2 a b c d e)
theorem pk_write {h : MH} (hJ : JK h) (a : Int32) (b : Int32) (p : PairOK J1 TA 75 179 [.int a, .int b] h) : PairOK JK TE 75 179 [.int a, .int b] h := up_q (M1 := m_X6_write) (M2 := m_X7_write) (c := F_cwrite (cI h) a b) (m := fun y => F_write y a b) p hJ rfl rfl (by decide) (by decide) (ux_cwrite _ a b) (ux_write _ a b) (q_write hJ.2 a b)
theorem rd_60 {s : SG} (h : KF s) : ∀ q, q < 4 → (s (115 + 2 * q) 3).toInt ≤ 60 := fun q hq => by
  obtain ⟨-, -, k3, k4, k5, -⟩ := h.1.2.2.2.2.1 q hq
  rw [k3]
  have k5 : (s 150 q).toInt.toNat ≤ 60 := k5
  omega
theorem rd_61 {s : SG} (h : KF s) (a : Int32) : bl a 4 = true → ((F_cread s a).2 150 a.toNatClampNeg).toInt ≤ 60 := fun hb => by
  have hq : a.toNatClampNeg < 4 := (bl_ofn hb).2
  obtain ⟨k1, -, k3, k4, k5, -⟩ := h.1.2.2.2.2.1 _ hq
  have k5 : (s 150 a.toNatClampNeg).toInt.toNat ≤ 60 := k5
  have e : (F_cread s a).2 150 a.toNatClampNeg = s 150 a.toNatClampNeg := by
    unfold F_cread
    rw [hb, kT]
    cases m_cmp .eq (s (115 + 2 * a.toNatClampNeg) 1) 0 with
    | false => rw [kF]; rfl
    | true =>
      rw [kT]
      have key : ∀ (n i : Nat) (s : SG) (b j : Nat), 123 < b → (rdC (115 + 2 * a.toNatClampNeg) n i s).2 b j = s b j := by
        intro n
        induction n with
        | zero => exact fun i s b j _ => rfl
        | succ n ih =>
          intro i s b j hbj
          have fe : (evR (115 + 2 * a.toNatClampNeg) i s).2 b j = s b j := (fr_cevent s _ _ _) b j (by
            cases w : inW W_cevent b j with
            | false => rfl
            | true =>
              have x := inW_sub (D1 := W_cevent) (D2 := [(0, 123, none)]) rfl w
              simp [inW] at x
              omega)
          rw [rdC_s]
          cases m_cmp .ge (Int32.ofNat (3 * i) + 2) (s (115 + 2 * a.toNatClampNeg) 3) with
          | true => rfl
          | false =>
            rw [kF]
            cases m_cmp .ge (evR (115 + 2 * a.toNatClampNeg) i s).1 0 with
            | true => rw [kT, ih (i + 1) _ b j hbj]; exact fe
            | false => rw [kF]; exact fe
      exact key 20 0 s 150 _ (by omega)
  rw [e]
  omega
theorem pk_read {h : MH} (hJ : JK h) (a : Int32) (p : PairOK J1 TA 42 121 [.int a] h) : PairOK JK TE 42 121 [.int a] h := up_q (M1 := m_X6_read) (M2 := m_X7_read) (c := F_cread (cI h) a) (m := fun y => F_read y a) p hJ rfl rfl (by decide) (by decide) (ux_cread _ a (rd_60 hJ.2)) (ux_read _ a (rd_61 hJ.2 a)) (q_read hJ.2 a)
theorem pk_spare {xs : List Int32} {j : Int32} {h : MH} (hJ : JK h) : PairOK JK TA 55 155 (argsOf xs j 1 1) h := up_i (M1 := m_X6_spare) (M2 := m_X7_spare) hJ rfl rfl (ent_this 0 xs j 1 1 _ (by decide)) (ent_this 123 xs j 1 1 _ (by decide)) (by decide) (SPi.ct p_cc62 rfl (gS_this 0 (gS_args xs j 1 1)) (gH.eq eq_HCr hJ.1.1) rfl) (KI_spare hJ.2 _) (fun h1 g1 => SPi.ct p_cm61 rfl (gS_this 123 (gS_args xs j 1 1)) (gH.eq eq_HMr g1.1.2.1) rfl)
theorem pk_chance {xs : List Int32} {j : Int32} {h : MH} (hJ : JK h) : PairOK JK TL 66 167 (argsOf xs j 3 1) h := up_l (M1 := m_X6_chance) (M2 := m_X7_chance) hJ rfl rfl (ent_this 0 xs j 3 1 _ (by decide)) (ent_this 123 xs j 3 1 _ (by decide)) (by decide) (SPl.ct p_cc74 rfl (gS_this 0 (gS_args xs j 3 1)) (gH.eq eq_HCr hJ.1.1) rfl) (KL_chance hJ.2 _ _ _) (fun h1 g1 => SPl.ct p_cm74 rfl (gS_this 123 (gS_args xs j 3 1)) (gH.eq eq_HMr g1.1.2.1) rfl)
theorem pk_digest {xs : List Int32} {j : Int32} {h : MH} (hJ : JK h) : PairOK JK TL 77 185 (argsOf xs j 0 1) h := up_l (M1 := m_X6_digest) (M2 := m_X7_digest) hJ rfl rfl (ent_this 0 xs j 0 1 _ (by decide)) (ent_this 123 xs j 0 1 _ (by decide)) (by decide) (SPl.ct p_cc82 rfl (gS_this 0 (gS_args xs j 0 1)) (gH.eq eq_HCr hJ.1.1) rfl) (KL_digest hJ.2) (fun h1 g1 => SPl.ct p_cm83 rfl (gS_this 123 (gS_args xs j 0 1)) (gH.eq eq_HMr g1.1.2.1) rfl)
theorem KF_0 : KF (cI h0) := by
  refine ⟨⟨⟨⟨⟨?_, ?_, ?_, ?_⟩, ?_, ?_, ?_, ?_, ?_, ?_⟩, ?_, ?_⟩, ⟨⟨⟨-1, Or.inr ⟨?_, ?_⟩, ?_⟩, ?_⟩, ?_, ?_⟩, ⟨?_, ?_, ?_, ?_, ?_, ?_, ?_⟩, ⟨?_, ?_, ?_, ?_, ?_⟩, ⟨?_, ?_⟩⟩, KX.stale ?_ ?_⟩
  · decide +kernel
  · decide +kernel
  · decide +kernel
  · decide +kernel
  · decide +kernel
  · decide +kernel
  · decide +kernel
  · decide +kernel
  · decide +kernel
  · decide +kernel
  · decide +kernel
  · decide +kernel
  · decide +kernel
  · decide +kernel
  · decide +kernel
  · decide +kernel
  · unfold KC1; decide +kernel
  · unfold KC2; decide +kernel
  · decide +kernel
  · decide +kernel
  · decide +kernel
  · decide +kernel
  · intro e he
    have e0 : (cI h0 2 3).toNatClampNeg = 0 := by decide +kernel
    omega
  · decide +kernel
  · decide +kernel
  · decide +kernel
  · decide +kernel
  · decide +kernel
  · decide +kernel
  · intro e he
    have e0 : (cI h0 6 2).toNatClampNeg = 0 := by decide +kernel
    omega
  · unfold KHq; decide +kernel
  · decide +kernel
  · decide +kernel
  · decide +kernel
theorem JK_0 : JK h0 := ⟨J1_0, KF_0⟩
end
section
/-! WHAT IF: the class's other course, the model's changed inputs -/
def updN (f : NI) (m : Nat) (v : Int32) : NI := fun t => if t = m then v else f t
def tJ (s : SG) (so po ra ru : NI) (mask : Int32) : TI := ((s 10 0).toNatClampNeg, so, po, fun k => Int32.ofNat k, ra, ru, s 10 5, s 10 6, befC s mask)
def Wo : LW := [(59, 63, none), (65, 88, none), (89, 95, none), (58, 58, some 8), (53, 57, none), (98, 108, none)]
/-- the other course -/
def OtC (s w : SG) (so po ra ru : NI) : Prop := w 53 0 = s 10 0 ∧ (∀ k, k < 8 → w 54 k = so k ∧ w 55 k = po k) ∧ (∀ t, t < 24 → w 56 t = ra t ∧ w 57 t = ru t) ∧ w 53 5 = s 10 5 ∧ w 53 6 = s 10 6 ∧ Fr Wo s w
theorem otTake (s : SG) : OtC s (F_take s) (s 11) (s 12) (s 13) (s 14) := by
  have f := fr_take s
  have e : F_take s = (uset (uset (mvs (mvs (mvs (mvs (uset s 53 0 (s 10 0)) 11 0 54 0 8) 12 0 55 0 8) 13 0 56 0 24) 14 0 57 0 24) 53 5 ((mvs (mvs (mvs (mvs (uset s 53 0 (s 10 0)) 11 0 54 0 8) 12 0 55 0 8) 13 0 56 0 24) 14 0 57 0 24) 10 5)) 53 6 ((mvs (mvs (mvs (mvs (uset s 53 0 (s 10 0)) 11 0 54 0 8) 12 0 55 0 8) 13 0 56 0 24) 14 0 57 0 24) 10 6)) := rfl
  have mn : ∀ (y : SG) (a0 i a1 j n b k : Nat), b ≠ a1 → mvs y a0 i a1 j n b k = y b k := fun y a0 i a1 j n b k h => if_neg (fun q => h q.1)
  have mi : ∀ (y : SG) (a0 a1 n k : Nat), k < n → mvs y a0 0 a1 0 n a1 k = y a0 k := fun y a0 a1 n k h => by
    have e : mvs y a0 0 a1 0 n a1 k = y a0 (0 + (k - 0)) := if_pos ⟨rfl, by omega, by omega⟩
    rw [e]
    congr 1
    omega
  refine ⟨?_, fun k hk => ⟨?_, ?_⟩, fun t ht => ⟨?_, ?_⟩, ?_, ?_, f.wk rfl⟩
  · rw [e, uset_nj (by decide), uset_nj (by decide), mn _ _ _ _ _ _ _ _ (by decide), mn _ _ _ _ _ _ _ _ (by decide), mn _ _ _ _ _ _ _ _ (by decide), mn _ _ _ _ _ _ _ _ (by decide)]
    exact uset_eq _ _ _ _
  · rw [e, uset_na (by decide), uset_na (by decide), mn _ _ _ _ _ _ _ _ (by decide), mn _ _ _ _ _ _ _ _ (by decide), mn _ _ _ _ _ _ _ _ (by decide), mi _ _ _ _ _ hk]
    exact uset_na (by decide)
  · rw [e, uset_na (by decide), uset_na (by decide), mn _ _ _ _ _ _ _ _ (by decide), mn _ _ _ _ _ _ _ _ (by decide), mi _ _ _ _ _ hk, mn _ _ _ _ _ _ _ _ (by decide)]
    exact uset_na (by decide)
  · rw [e, uset_na (by decide), uset_na (by decide), mn _ _ _ _ _ _ _ _ (by decide), mi _ _ _ _ _ ht, mn _ _ _ _ _ _ _ _ (by decide), mn _ _ _ _ _ _ _ _ (by decide)]
    exact uset_na (by decide)
  · rw [e, uset_na (by decide), uset_na (by decide), mi _ _ _ _ _ ht, mn _ _ _ _ _ _ _ _ (by decide), mn _ _ _ _ _ _ _ _ (by decide), mn _ _ _ _ _ _ _ _ (by decide)]
    exact uset_na (by decide)
  · rw [e, uset_nj (by decide), uset_eq, mn _ _ _ _ _ _ _ _ (by decide), mn _ _ _ _ _ _ _ _ (by decide), mn _ _ _ _ _ _ _ _ (by decide), mn _ _ _ _ _ _ _ _ (by decide)]
    exact uset_na (by decide)
  · rw [e, uset_eq, mn _ _ _ _ _ _ _ _ (by decide), mn _ _ _ _ _ _ _ _ (by decide), mn _ _ _ _ _ _ _ _ (by decide), mn _ _ _ _ _ _ _ _ (by decide)]
    exact uset_na (by decide)
section OTC
variable {s w : SG} {so po ra ru : NI}
theorem OtC.wru (o : OtC s w so po ra ru) (m : Nat) (v : Int32) : OtC s (uset w 57 m v) so po ra (updN ru m v) := by
  obtain ⟨o1, o2, o3, o4, o5, o6⟩ := o
  refine ⟨(uset_na (by decide)).trans o1, fun k hk => ⟨(uset_na (by decide)).trans (o2 k hk).1, (uset_na (by decide)).trans (o2 k hk).2⟩, fun t ht => ⟨(uset_na (by decide)).trans (o3 t ht).1, ?_⟩, (uset_na (by decide)).trans o4, (uset_na (by decide)).trans o5, Fr.uset rfl o6⟩
  unfold updN
  by_cases e : t = m
  · rw [if_pos e, e]; exact uset_eq _ _ _ _
  · rw [if_neg e, uset_nj e]; exact (o3 t ht).2
theorem OtC.wra (o : OtC s w so po ra ru) (m : Nat) (v : Int32) : OtC s (uset w 56 m v) so po (updN ra m v) ru := by
  obtain ⟨o1, o2, o3, o4, o5, o6⟩ := o
  refine ⟨(uset_na (by decide)).trans o1, fun k hk => ⟨(uset_na (by decide)).trans (o2 k hk).1, (uset_na (by decide)).trans (o2 k hk).2⟩, fun t ht => ⟨?_, (uset_na (by decide)).trans (o3 t ht).2⟩, (uset_na (by decide)).trans o4, (uset_na (by decide)).trans o5, Fr.uset rfl o6⟩
  unfold updN
  by_cases e : t = m
  · rw [if_pos e, e]; exact uset_eq _ _ _ _
  · rw [if_neg e, uset_nj e]; exact (o3 t ht).1
theorem OtC.wpo (o : OtC s w so po ra ru) (m : Nat) (v : Int32) : OtC s (uset w 55 m v) so (updN po m v) ra ru := by
  obtain ⟨o1, o2, o3, o4, o5, o6⟩ := o
  refine ⟨(uset_na (by decide)).trans o1, fun k hk => ⟨(uset_na (by decide)).trans (o2 k hk).1, ?_⟩, fun t ht => ⟨(uset_na (by decide)).trans (o3 t ht).1, (uset_na (by decide)).trans (o3 t ht).2⟩, (uset_na (by decide)).trans o4, (uset_na (by decide)).trans o5, Fr.uset rfl o6⟩
  unfold updN
  by_cases e : k = m
  · rw [if_pos e, e]; exact uset_eq _ _ _ _
  · rw [if_neg e, uset_nj e]; exact (o2 k hk).2
theorem OtC.wso (o : OtC s w so po ra ru) (m : Nat) (v : Int32) : OtC s (uset w 54 m v) (updN so m v) po ra ru := by
  obtain ⟨o1, o2, o3, o4, o5, o6⟩ := o
  refine ⟨(uset_na (by decide)).trans o1, fun k hk => ⟨?_, (uset_na (by decide)).trans (o2 k hk).2⟩, fun t ht => ⟨(uset_na (by decide)).trans (o3 t ht).1, (uset_na (by decide)).trans (o3 t ht).2⟩, (uset_na (by decide)).trans o4, (uset_na (by decide)).trans o5, Fr.uset rfl o6⟩
  unfold updN
  by_cases e : k = m
  · rw [if_pos e, e]; exact uset_eq _ _ _ _
  · rw [if_neg e, uset_nj e]; exact (o2 k hk).1
theorem OtC.cg {so2 po2 ra2 ru2 : NI} (o : OtC s w so po ra ru) (h1 : ∀ k, so k = so2 k) (h2 : ∀ k, po k = po2 k) (h3 : ∀ t, ra t = ra2 t) (h4 : ∀ t, ru t = ru2 t) : OtC s w so2 po2 ra2 ru2 := by
  rw [← funext h1, ← funext h2, ← funext h3, ← funext h4]
  exact o
end OTC
theorem upd2 (f : NI) (m : Nat) (x v : Int32) : updN (updN f m x) m v = updN f m v := by
  funext t
  unfold updN
  by_cases e : t = m
  · rw [if_pos e, if_pos e]
  · rw [if_neg e, if_neg e, if_neg e]
theorem updS (f : NI) (m : Nat) : updN f m (f m) = f := by
  funext t
  unfold updN
  by_cases e : t = m
  · rw [if_pos e, e]
  · rw [if_neg e]
/-- what the other trip shows -/
def COb (J : TI) (z : SG) : Prop := ∀ t, t < 24 → z 59 t = sme (trip J (t + 1)) ∧ z 60 t = spl' (trip J (t + 1)) ∧ z 63 t = gr' J t (trip J t)
theorem rowO {s w : SG} {so po ra ru : NI} (h8 : (s 10 0).toNatClampNeg ≤ 8) (hev : evC s) (o : OtC s w so po ra ru) : COb (tJ s so po ra ru 255) (F_rowOther w) ∧ OtC s (F_rowOther w) so po ra ru := by
  obtain ⟨o1, o2, o3, o4, o5, o6⟩ := o
  have hn : (w 53 0).toNatClampNeg ≤ 8 := by rw [o1]; exact h8
  have hew : evC w := by
    unfold evC at *
    rw [o6 2 3 rfl]
    intro e he
    rw [o6 3 e rfl, o6 4 e rfl]
    exact hev e he
  obtain ⟨m, p, R⟩ := rowC_b (s := w) (mask := 255) hn hew
  have eF : F_rowOther w = F_row_b w 255 := rfl
  rw [eF]
  generalize F_row_b w 255 = z at *
  obtain ⟨f, -, -, -, -, -, r4⟩ := R
  have f : Fr W_row_b w z := f
  have r4 : OuC_b (inC_b w 255) 24 z := r4
  have eb : befC w 255 = befC s 255 := befC_ag (o6.ag DJ rfl) 255
  have E : eqJ (inC_b w 255) (tJ s so po ra ru 255) := by
    have en : jn (inC_b w 255) = (s 10 0).toNatClampNeg := by show (w 53 0).toNatClampNeg = _; rw [o1]
    refine ⟨en, fun k hk => ?_, fun t ht => ?_, o4, o5⟩
    · rw [en] at hk
      exact ⟨(o2 k (by omega)).1, (o2 k (by omega)).2, rfl⟩
    · refine ⟨(o3 t ht).1, (o3 t ht).2, ?_⟩
      show befC w 255 t = befC s 255 t
      rw [eb]
  refine ⟨fun t ht => ?_, ⟨(f 53 0 rfl).trans o1, fun k hk => ⟨(f 54 k rfl).trans (o2 k hk).1, (f 55 k rfl).trans (o2 k hk).2⟩, fun t ht => ⟨(f 56 t rfl).trans (o3 t ht).1, (f 57 t rfl).trans (o3 t ht).2⟩, (f 53 5 rfl).trans o4, (f 53 6 rfl).trans o5, o6.tr (f.wk rfl)⟩⟩
  obtain ⟨a1, a2, -, -, a5, -⟩ := r4 t ht
  have T := trip_c E (t + 1) (by omega)
  exact ⟨a1.trans T.1, a2.trans T.2.1, a5.trans (gr_t E ht)⟩
/-- the model's inputs, changed -/
def MtC (s z : SG) (so po ra ru : NI) (set : Int32) : Prop := z 123 2 = s 10 0 ∧ (∀ k, k < (s 10 0).toNatClampNeg → z 126 k = so k ∧ z 127 k = po k) ∧ (∀ t, t < 24 → z 133 t = ra t ∧ z 134 t = ru t) ∧ (∀ k, k < 8 → z 135 k = Int32.ofNat k) ∧ z 123 17 = set ∧ Fr W_asTold s z
theorem mtTold {s : SG} (t : KT s) (c : KC s) : MtC s (F_asTold s) (s 11) (s 12) (s 13) (s 14) 0 := asT t c
section MTC
variable {s z : SG} {so po ra ru : NI} {set : Int32}
theorem MtC.wru (o : MtC s z so po ra ru set) (m : Nat) (v : Int32) : MtC s (uset z 134 m v) so po ra (updN ru m v) set := by
  obtain ⟨o1, o2, o3, o4, o5, o6⟩ := o
  refine ⟨(uset_na (by decide)).trans o1, fun k hk => ⟨(uset_na (by decide)).trans (o2 k hk).1, (uset_na (by decide)).trans (o2 k hk).2⟩, fun t ht => ⟨(uset_na (by decide)).trans (o3 t ht).1, ?_⟩, fun k hk => (uset_na (by decide)).trans (o4 k hk), (uset_na (by decide)).trans o5, Fr.uset rfl o6⟩
  unfold updN
  by_cases e : t = m
  · rw [if_pos e, e]; exact uset_eq _ _ _ _
  · rw [if_neg e, uset_nj e]; exact (o3 t ht).2
theorem MtC.wra (o : MtC s z so po ra ru set) (m : Nat) (v : Int32) : MtC s (uset z 133 m v) so po (updN ra m v) ru set := by
  obtain ⟨o1, o2, o3, o4, o5, o6⟩ := o
  refine ⟨(uset_na (by decide)).trans o1, fun k hk => ⟨(uset_na (by decide)).trans (o2 k hk).1, (uset_na (by decide)).trans (o2 k hk).2⟩, fun t ht => ⟨?_, (uset_na (by decide)).trans (o3 t ht).2⟩, fun k hk => (uset_na (by decide)).trans (o4 k hk), (uset_na (by decide)).trans o5, Fr.uset rfl o6⟩
  unfold updN
  by_cases e : t = m
  · rw [if_pos e, e]; exact uset_eq _ _ _ _
  · rw [if_neg e, uset_nj e]; exact (o3 t ht).1
theorem MtC.wpo (o : MtC s z so po ra ru set) (m : Nat) (v : Int32) : MtC s (uset z 127 m v) so (updN po m v) ra ru set := by
  obtain ⟨o1, o2, o3, o4, o5, o6⟩ := o
  refine ⟨(uset_na (by decide)).trans o1, fun k hk => ⟨(uset_na (by decide)).trans (o2 k hk).1, ?_⟩, fun t ht => ⟨(uset_na (by decide)).trans (o3 t ht).1, (uset_na (by decide)).trans (o3 t ht).2⟩, fun k hk => (uset_na (by decide)).trans (o4 k hk), (uset_na (by decide)).trans o5, Fr.uset rfl o6⟩
  unfold updN
  by_cases e : k = m
  · rw [if_pos e, e]; exact uset_eq _ _ _ _
  · rw [if_neg e, uset_nj e]; exact (o2 k hk).2
theorem MtC.wso (o : MtC s z so po ra ru set) (m : Nat) (v : Int32) : MtC s (uset z 126 m v) (updN so m v) po ra ru set := by
  obtain ⟨o1, o2, o3, o4, o5, o6⟩ := o
  refine ⟨(uset_na (by decide)).trans o1, fun k hk => ⟨?_, (uset_na (by decide)).trans (o2 k hk).2⟩, fun t ht => ⟨(uset_na (by decide)).trans (o3 t ht).1, (uset_na (by decide)).trans (o3 t ht).2⟩, fun k hk => (uset_na (by decide)).trans (o4 k hk), (uset_na (by decide)).trans o5, Fr.uset rfl o6⟩
  unfold updN
  by_cases e : k = m
  · rw [if_pos e, e]; exact uset_eq _ _ _ _
  · rw [if_neg e, uset_nj e]; exact (o2 k hk).1
theorem MtC.wset (o : MtC s z so po ra ru set) (v : Int32) : MtC s (uset z 123 17 v) so po ra ru v := by
  obtain ⟨o1, o2, o3, o4, o5, o6⟩ := o
  exact ⟨(uset_nj (by decide)).trans o1, fun k hk => ⟨(uset_na (by decide)).trans (o2 k hk).1, (uset_na (by decide)).trans (o2 k hk).2⟩, fun t ht => ⟨(uset_na (by decide)).trans (o3 t ht).1, (uset_na (by decide)).trans (o3 t ht).2⟩, fun k hk => (uset_na (by decide)).trans (o4 k hk), uset_eq _ _ _ _, Fr.uset rfl o6⟩
def bitN (set mask : Int32) : Prop := ∀ e, e < 8 → m_cmp .ne ((set >>> ((Int32.ofNat e) &&& 31)) &&& 1) 0 = !(m_cmp .ne ((mask >>> ((Int32.ofNat e) &&& 31)) &&& 1) 0)
theorem runT {mask : Int32} (hE : KE s) (h8 : (s 10 0).toNatClampNeg ≤ 8) (o : MtC s z so po ra ru set) (hb : bitN set mask) (ov : ovJ (tJ s so po ra ru mask)) : MOu (tJ s so po ra ru mask) (F_runs z) ∧ MtC s (F_runs z) so po ra ru set := by
  obtain ⟨o1, o2, o3, o4, o5, f⟩ := o
  have E : eqJ (inM z) (tJ s so po ra ru mask) := by
    have en : jn (inM z) = (s 10 0).toNatClampNeg := by show (z 123 2).toNatClampNeg = _; rw [o1]
    refine ⟨en, fun k hk => ?_, fun t ht => ?_, ?_, ?_⟩
    · rw [en] at hk
      exact ⟨(o2 k hk).1, (o2 k hk).2, o4 k (by omega)⟩
    · exact ⟨(o3 t ht).1, (o3 t ht).2, befT hE f o5 hb t⟩
    · show z 123 9 = s 10 5
      rw [f 123 9 rfl]
      exact hE.2.2.2.2.2.1.symm
    · show z 123 10 = s 10 6
      rw [f 123 10 rfl]
      exact hE.2.2.2.2.2.2.symm
  obtain ⟨r, g⟩ := runMO (z := z) (by rw [o1]; exact h8) (fun k hk => ⟨k, hk, o4 k hk⟩) E ov
  exact ⟨r, (g 123 2 rfl).trans o1, fun k hk => ⟨(g 126 k rfl).trans (o2 k hk).1, (g 127 k rfl).trans (o2 k hk).2⟩, fun t ht => ⟨(g 133 t rfl).trans (o3 t ht).1, (g 134 t rfl).trans (o3 t ht).2⟩, fun k hk => (g 135 k rfl).trans (o4 k hk), (g 123 17 rfl).trans o5, f.tr (g.wk rfl)⟩
end MTC
theorem bit0_ : bitN 0 255 := hb0
theorem ovT {s : SG} {so po ra ru : NI} {mask : Int32} (h8 : (s 10 0).toNatClampNeg ≤ 8) (hp : ∀ k, k < (s 10 0).toNatClampNeg → 1 ≤ (po k).toInt ∧ (po k).toInt ≤ 9) (hr : ∀ t, t < 24 → 0 ≤ (ra t).toInt ∧ (ra t).toInt ≤ 3) : ovJ (tJ s so po ra ru mask) := ovJ_of h8 hp hr
theorem upd_b {f : NI} {m : Nat} {v : Int32} {lo hi : Int} {n : Nat} (h : ∀ t, t < n → lo ≤ (f t).toInt ∧ (f t).toInt ≤ hi) (hv : lo ≤ v.toInt ∧ v.toInt ≤ hi) : ∀ t, t < n → lo ≤ (updN f m v t).toInt ∧ (updN f m v t).toInt ≤ hi := fun t ht => by
  unfold updN
  by_cases e : t = m
  · rw [if_pos e]; exact hv
  · rw [if_neg e]; exact h t ht
theorem ls_b {z : SG} {J : TI} (h : COb J z) : F_lastStray_b z = offP (spl' (trip J 24)) := by
  have e : z 60 23 = spl' (trip J 24) := (h 23 (by omega)).2.1
  unfold F_lastStray_b
  rw [e]
  exact offA (plB J 24)
theorem offB (p : Int32) (h : 0 ≤ p.toInt ∧ p.toInt ≤ 20) : 0 ≤ (offP p).toInt ∧ (offP p).toInt ≤ 10 := by
  have e10 : (10 : Int32).toInt = 10 := by decide
  have d : (p - 10).toInt = p.toInt - 10 := (i32_sub (by omega) (by omega)).trans (by omega)
  have d2 : (10 - p).toInt = 10 - p.toInt := (i32_sub (by omega) (by omega)).trans (by omega)
  unfold offP
  cases q : m_cmp .ge p 10 with
  | true =>
    have := m_ge_iff.mp q
    rw [cT]
    omega
  | false =>
    have := m_ff m_ge_iff q
    rw [cF]
    omega
/-- the model keeps its side beside the class's changes: what it reads is the state before -/
theorem KG.sd {s c : SG} (h : KG s) (f : Fr Wo s c) : KG c ∧ tJ c = tJ s := by
  refine ⟨h.ag (f.ag DG rfl), ?_⟩
  funext so po ra ru mask
  unfold tJ
  rw [befC_ag (f.ag DJ rfl) mask, f 10 0 rfl, f 10 5 rfl, f 10 6 rfl]
/-! steer -/
def sJ (s : SG) (m v : Nat) : TI := tJ s (s 11) (s 12) (s 13) (updN (s 14) m (Int32.ofNat v)) 255
def sV (s : SG) (m v : Nat) : Int32 := offP (spl' (trip (sJ s m v) 24))
def stC (s : SG) (m : Nat) (v : Nat) (x : Int32 × Int32) : Int32 × Int32 := bif m_cmp .ge (sV s m v) x.2 then x else (Int32.ofNat v, sV s m v)
def stM (s : SG) (m : Nat) (v : Nat) (x : Int32 × Int32) : Int32 × Int32 := bif m_cmp .eq (bif m_cmp .eq x.1 (-1) then (1 : Int32) else (bif m_cmp .ge (sV s m v) x.2 then (0 : Int32) else (1 : Int32))) 0 then x else (Int32.ofNat v, sV s m v)
theorem stE (s : SG) (m : Nat) : ∀ i, i < 3 → itr (stC s m) 0 (i + 1) (-1, 20) = itr (stM s m) 0 (i + 1) (-1, 0) ∧ ∃ k, k < 3 ∧ (itr (stM s m) 0 (i + 1) (-1, 0)).1 = Int32.ofNat k := by
  intro i
  induction i with
  | zero =>
    intro _
    rw [itr_0, itr_0, itr_z, itr_z]
    have b := offB _ (plB (sJ s m 0) 24)
    have e : stC s m 0 (-1, 20) = (Int32.ofNat 0, sV s m 0) := by
      unfold stC
      have c : m_cmp .ge (sV s m 0) 20 = false := by
        cases q : m_cmp .ge (sV s m 0) 20 with
        | false => rfl
        | true =>
          have q := m_ge_iff.mp q
          have e20 : (20 : Int32).toInt = 20 := by decide
          have b2 : (sV s m 0).toInt ≤ 10 := b.2
          omega
      show (bif m_cmp .ge (sV s m 0) 20 then _ else _) = _
      rw [c, kF]
    have e2 : stM s m 0 (-1, 0) = (Int32.ofNat 0, sV s m 0) := by
      unfold stM
      show (bif m_cmp .eq (bif m_cmp .eq (-1) (-1) then (1 : Int32) else _) 0 then _ else _) = _
      rw [show m_cmp .eq (-1 : Int32) (-1) = true from rfl, kT, show m_cmp .eq (1 : Int32) 0 = false from rfl, kF]
    rw [e, e2]
    exact ⟨rfl, 0, by decide, rfl⟩
  | succ i ih =>
    intro hi
    obtain ⟨h1, k, hk, h2⟩ := ih (by omega)
    rw [itr_0, itr_0 (stM s m), h1]
    generalize itr (stM s m) 0 (i + 1) (-1, 0) = x at *
    have c : m_cmp .eq x.1 (-1) = false := by
      cases q : m_cmp .eq x.1 (-1) with
      | false => rfl
      | true =>
        have q := m_eq_iff.mp q
        rw [h2] at q
        exact absurd q (ofn_ne (by omega))
    unfold stC stM
    rw [c, kF]
    cases m_cmp .ge (sV s m (i + 1)) x.2 with
    | true =>
      rw [kT, kT, show m_cmp .eq (0 : Int32) 0 = true from rfl, kT]
      exact ⟨rfl, k, hk, h2⟩
    | false =>
      rw [kF, kF, show m_cmp .eq (1 : Int32) 0 = false from rfl, kF]
      exact ⟨rfl, i + 1, hi, rfl⟩
theorem q_steer {s : SG} (h : KF s) (mi wh : Int32) : QK (F_csteer s mi wh) (fun y => F_steer y mi wh) := by
  refine ⟨(kf_steer h mi wh).ag ((fr_steer _ mi wh).ag DF rfl), ?_⟩
  have eC : F_csteer s mi wh = bif m_cmp .eq (F_isBelow s mi 24) 0 then (((-2), s)) else (bif m_cmp .ne (F_isBelow s wh 2) 0 then (bif m_cmp .ne wh 0 then (itr (B_csteer_21 mi) 0 3 (F_take s, (-1), 20)).2.2 else (itr (B_csteer_21 mi) 0 3 (F_take s, (-1), 20)).2.1, (itr (B_csteer_21 mi) 0 3 (F_take s, (-1), 20)).1) else (((-2), s))) := rfl
  have eM : ∀ y, F_steer y mi wh = bif m_cmp .eq (F_isMinute y mi) 0 then ((-2 : Int32), y) else (bif m_cmp .eq (F_isTwo y wh) 0 then ((-2 : Int32), y) else (bif m_cmp .ne wh 0 then (itr (B_steerOf_8 mi) 0 3 (F_asTold y, (-1), 0)).2.2 else (itr (B_steerOf_8 mi) 0 3 (F_asTold y, (-1), 0)).2.1, (itr (B_steerOf_8 mi) 0 3 (F_asTold y, (-1), 0)).1)) := fun _ => rfl
  dsimp only
  rw [eC, bl_e, bl_n]
  cases q : bl mi 24 with
  | false => rw [lF, kT, eM, isM_e, q, lF, kT]
  | true =>
    rw [lT, kF]
    cases q2 : bl wh 2 with
    | false => rw [kF, eM, isM_e, q, lT, kF, is2_e, q2, lF, kT]
    | true =>
      rw [kT]
      have h8 := row8 h.1.1.1 h.1.2.1.1
      have hpw : ∀ k, k < (s 10 0).toNatClampNeg → 1 ≤ (s 12 k).toInt ∧ (s 12 k).toInt ≤ 9 := fun k hk => pw19 h.1.1.1 h.1.2.1.1 hk
      have hrt : ∀ t, t < 24 → 0 ≤ (s 13 t).toInt ∧ (s 13 t).toInt ≤ 3 := fun t ht => rt03 h.1.2.1.2.1 ht
      have A : ∀ i, i ≤ 3 → (∃ x, OtC s (itr (B_csteer_21 mi) 0 i (F_take s, (-1), 20)).1 (s 11) (s 12) (s 13) (updN (s 14) mi.toNatClampNeg x)) ∧ (itr (B_csteer_21 mi) 0 i (F_take s, (-1), 20)).2 = itr (stC s mi.toNatClampNeg) 0 i (-1, 20) := by
        intro i
        induction i with
        | zero => exact fun _ => ⟨⟨s 14 mi.toNatClampNeg, by rw [updS]; exact otTake s⟩, rfl⟩
        | succ i ih =>
          intro hi
          obtain ⟨⟨x, o⟩, e⟩ := ih (by omega)
          rw [itr_0, itr_0, ← e]
          generalize itr (B_csteer_21 mi) 0 i (F_take s, (-1), 20) = a at *
          have o2 := o.wru mi.toNatClampNeg (Int32.ofNat i)
          rw [upd2] at o2
          obtain ⟨r1, r2⟩ := rowO h8 h.1.2.2.1.2.2.2.2.1 o2
          have eB : B_csteer_21 mi i a = (F_rowOther (uset a.1 57 mi.toNatClampNeg (Int32.ofNat i)), (bif m_cmp .ge (F_lastStray_b (F_rowOther (uset a.1 57 mi.toNatClampNeg (Int32.ofNat i)))) a.2.2 then (a.2.1, a.2.2) else (Int32.ofNat i, F_lastStray_b (F_rowOther (uset a.1 57 mi.toNatClampNeg (Int32.ofNat i))))).1, (bif m_cmp .ge (F_lastStray_b (F_rowOther (uset a.1 57 mi.toNatClampNeg (Int32.ofNat i)))) a.2.2 then (a.2.1, a.2.2) else (Int32.ofNat i, F_lastStray_b (F_rowOther (uset a.1 57 mi.toNatClampNeg (Int32.ofNat i))))).2) := rfl
          rw [eB]
          generalize F_rowOther (uset a.1 57 mi.toNatClampNeg (Int32.ofNat i)) = z at *
          refine ⟨⟨_, r2⟩, ?_⟩
          have e5 : F_lastStray_b z = sV s mi.toNatClampNeg i := ls_b r1
          rw [e5]
          unfold stC
          generalize sV s mi.toNatClampNeg i = y
          cases m_cmp .ge y a.2.2 <;> rfl
      obtain ⟨⟨x, o⟩, e⟩ := A 3 (Nat.le_refl _)
      generalize itr (B_csteer_21 mi) 0 3 (F_take s, (-1), 20) = a at *
      obtain ⟨c, p⟩ := a
      dsimp only at o e ⊢
      obtain ⟨g, eJ⟩ := KG.sd h.1 o.2.2.2.2.2
      have fo := o.2.2.2.2.2
      have cell : ∀ b, b = 11 ∨ b = 12 ∨ b = 13 ∨ b = 14 → c b = s b := fun b hb => funext (fun j => by rcases hb with rfl | rfl | rfl | rfl <;> exact fo _ j rfl)
      have eSV : sV c mi.toNatClampNeg = sV s mi.toNatClampNeg := by
        funext v
        unfold sV sJ
        rw [eJ, cell 11 (by decide), cell 12 (by decide), cell 13 (by decide), cell 14 (by decide)]
      rw [eM, isM_e, q, lT, kF, is2_e, q2, lT, kF]
      have B : ∀ i, i ≤ 3 → (∃ x, MtC c (itr (B_steerOf_8 mi) 0 i (F_asTold c, (-1), 0)).1 (c 11) (c 12) (c 13) (updN (c 14) mi.toNatClampNeg x) 0) ∧ (itr (B_steerOf_8 mi) 0 i (F_asTold c, (-1), 0)).2 = itr (stM s mi.toNatClampNeg) 0 i (-1, 0) := by
        intro i
        induction i with
        | zero => exact fun _ => ⟨⟨c 14 mi.toNatClampNeg, by rw [updS]; exact mtTold g.1.1 g.2.1⟩, rfl⟩
        | succ i ih =>
          intro hi
          obtain ⟨⟨x, o⟩, e⟩ := ih (by omega)
          rw [itr_0, itr_0, ← e]
          generalize itr (B_steerOf_8 mi) 0 i (F_asTold c, (-1), 0) = a at *
          have o2 := o.wru mi.toNatClampNeg (Int32.ofNat i)
          rw [upd2] at o2
          have ov : ovJ (tJ c (c 11) (c 12) (c 13) (updN (c 14) mi.toNatClampNeg (Int32.ofNat i)) 255) := ovT (by rw [fo 10 0 rfl]; exact h8) (fun k hk => by rw [fo 10 0 rfl] at hk; rw [cell 12 (by decide)]; exact hpw k hk) (fun t ht => by rw [cell 13 (by decide)]; exact hrt t ht)
          obtain ⟨r1, r2⟩ := runT g.2.2.1 (by rw [fo 10 0 rfl]; exact h8) o2 bit0_ ov
          have eB : B_steerOf_8 mi i a = (F_runs (uset a.1 134 mi.toNatClampNeg (Int32.ofNat i)), (bif m_cmp .eq (bif m_cmp .eq a.2.1 (-1) then (1 : Int32) else (bif m_cmp .ge (F_strayNow (F_runs (uset a.1 134 mi.toNatClampNeg (Int32.ofNat i)))) a.2.2 then (0 : Int32) else (1 : Int32))) 0 then a.2.1 else Int32.ofNat i), (bif m_cmp .eq (bif m_cmp .eq a.2.1 (-1) then (1 : Int32) else (bif m_cmp .ge (F_strayNow (F_runs (uset a.1 134 mi.toNatClampNeg (Int32.ofNat i)))) a.2.2 then (0 : Int32) else (1 : Int32))) 0 then a.2.2 else F_strayNow (F_runs (uset a.1 134 mi.toNatClampNeg (Int32.ofNat i))))) := rfl
          rw [eB]
          generalize F_runs (uset a.1 134 mi.toNatClampNeg (Int32.ofNat i)) = z at *
          refine ⟨⟨_, r2⟩, ?_⟩
          have eN : F_strayNow z = sV s mi.toNatClampNeg i := by
            have e0 : F_strayNow z = offP (z 123 20) := rfl
            rw [e0, r1.2.1, ← eSV]
            rfl
          rw [eN]
          unfold stM
          generalize sV s mi.toNatClampNeg i = y
          cases m_cmp .eq (bif m_cmp .eq a.2.1 (-1) then (1 : Int32) else (bif m_cmp .ge y a.2.2 then (0 : Int32) else (1 : Int32))) 0 <;> rfl
      obtain ⟨-, e2⟩ := B 3 (Nat.le_refl _)
      generalize itr (B_steerOf_8 mi) 0 3 (F_asTold c, (-1), 0) = b at *
      have e3 := (stE s mi.toNatClampNeg 2 (by decide)).1
      dsimp only
      rw [e2, ← e3, ← e]
end
section
/-! stroke -/
def kJ (s : SG) (m v : Nat) : TI := tJ s (s 11) (s 12) (updN (s 13) m (Int32.ofNat v)) (s 14) 255
def kV (s : SG) (m v : Nat) : Int32 := sme (trip (kJ s m v) 24)
def skF (s : SG) (m : Nat) (v : Nat) (x : Int32 × Int32) : Int32 × Int32 := bif m_cmp .le (kV s m v) x.2 then x else (Int32.ofNat v, kV s m v)
theorem v03 {v : Nat} (h : v < 4) : 0 ≤ (Int32.ofNat v).toInt ∧ (Int32.ofNat v).toInt ≤ 3 := by
  rw [ofn_int (by omega)]
  omega
theorem q_stroke {s : SG} (h : KF s) (mi wh : Int32) : QK (F_cstroke s mi wh) (fun y => F_stroke y mi wh) := by
  refine ⟨(kf_stroke h mi wh).ag ((fr_stroke _ mi wh).ag DF rfl), ?_⟩
  have eC : F_cstroke s mi wh = bif m_cmp .eq (F_isBelow s mi 24) 0 then (((-2), s)) else (bif m_cmp .ne (F_isBelow s wh 2) 0 then (bif m_cmp .ne wh 0 then (itr (B_cstroke_21 mi) 0 4 (F_take s, (-1), (-1))).2.2 else (itr (B_cstroke_21 mi) 0 4 (F_take s, (-1), (-1))).2.1, (itr (B_cstroke_21 mi) 0 4 (F_take s, (-1), (-1))).1) else (((-2), s))) := rfl
  have eM : ∀ y, F_stroke y mi wh = bif m_cmp .eq (F_isMinute y mi) 0 then ((-2 : Int32), y) else (bif m_cmp .eq (F_isTwo y wh) 0 then ((-2 : Int32), y) else (bif m_cmp .ne wh 0 then (itr (B_strokeOf_8 mi) 0 4 (F_asTold y, (-1), (-1))).2.2 else (itr (B_strokeOf_8 mi) 0 4 (F_asTold y, (-1), (-1))).2.1, (itr (B_strokeOf_8 mi) 0 4 (F_asTold y, (-1), (-1))).1)) := fun _ => rfl
  dsimp only
  rw [eC, bl_e, bl_n]
  cases q : bl mi 24 with
  | false => rw [lF, kT, eM, isM_e, q, lF, kT]
  | true =>
    rw [lT, kF]
    cases q2 : bl wh 2 with
    | false => rw [kF, eM, isM_e, q, lT, kF, is2_e, q2, lF, kT]
    | true =>
      rw [kT]
      have h8 := row8 h.1.1.1 h.1.2.1.1
      have hpw : ∀ k, k < (s 10 0).toNatClampNeg → 1 ≤ (s 12 k).toInt ∧ (s 12 k).toInt ≤ 9 := fun k hk => pw19 h.1.1.1 h.1.2.1.1 hk
      have hrt : ∀ t, t < 24 → 0 ≤ (s 13 t).toInt ∧ (s 13 t).toInt ≤ 3 := fun t ht => rt03 h.1.2.1.2.1 ht
      have A : ∀ i, i ≤ 4 → (∃ x, OtC s (itr (B_cstroke_21 mi) 0 i (F_take s, (-1), (-1))).1 (s 11) (s 12) (updN (s 13) mi.toNatClampNeg x) (s 14)) ∧ (itr (B_cstroke_21 mi) 0 i (F_take s, (-1), (-1))).2 = itr (skF s mi.toNatClampNeg) 0 i (-1, -1) := by
        intro i
        induction i with
        | zero => exact fun _ => ⟨⟨s 13 mi.toNatClampNeg, by rw [updS]; exact otTake s⟩, rfl⟩
        | succ i ih =>
          intro hi
          obtain ⟨⟨x, o⟩, e⟩ := ih (by omega)
          rw [itr_0, itr_0, ← e]
          generalize itr (B_cstroke_21 mi) 0 i (F_take s, (-1), (-1)) = a at *
          have o2 := o.wra mi.toNatClampNeg (Int32.ofNat i)
          rw [upd2] at o2
          obtain ⟨r1, r2⟩ := rowO h8 h.1.2.2.1.2.2.2.2.1 o2
          have eB : B_cstroke_21 mi i a = (F_rowOther (uset a.1 56 mi.toNatClampNeg (Int32.ofNat i)), (bif m_cmp .le (F_rowOther (uset a.1 56 mi.toNatClampNeg (Int32.ofNat i)) 59 23) a.2.2 then (a.2.1, a.2.2) else (Int32.ofNat i, F_rowOther (uset a.1 56 mi.toNatClampNeg (Int32.ofNat i)) 59 23)).1, (bif m_cmp .le (F_rowOther (uset a.1 56 mi.toNatClampNeg (Int32.ofNat i)) 59 23) a.2.2 then (a.2.1, a.2.2) else (Int32.ofNat i, F_rowOther (uset a.1 56 mi.toNatClampNeg (Int32.ofNat i)) 59 23)).2) := rfl
          rw [eB]
          generalize F_rowOther (uset a.1 56 mi.toNatClampNeg (Int32.ofNat i)) = z at *
          refine ⟨⟨_, r2⟩, ?_⟩
          have e59 : z 59 23 = kV s mi.toNatClampNeg i := (r1 23 (by decide)).1
          rw [e59]
          unfold skF
          generalize kV s mi.toNatClampNeg i = y
          cases m_cmp .le y a.2.2 <;> rfl
      obtain ⟨⟨x, o⟩, e⟩ := A 4 (Nat.le_refl _)
      generalize itr (B_cstroke_21 mi) 0 4 (F_take s, (-1), (-1)) = a at *
      obtain ⟨c, p⟩ := a
      dsimp only at o e ⊢
      obtain ⟨g, eJ⟩ := KG.sd h.1 o.2.2.2.2.2
      have fo := o.2.2.2.2.2
      have cell : ∀ b, b = 11 ∨ b = 12 ∨ b = 13 ∨ b = 14 → c b = s b := fun b hb => funext (fun j => by rcases hb with rfl | rfl | rfl | rfl <;> exact fo _ j rfl)
      have eSV : kV c mi.toNatClampNeg = kV s mi.toNatClampNeg := by
        funext v
        unfold kV kJ
        rw [eJ, cell 11 (by decide), cell 12 (by decide), cell 13 (by decide), cell 14 (by decide)]
      rw [eM, isM_e, q, lT, kF, is2_e, q2, lT, kF]
      have B : ∀ i, i ≤ 4 → (∃ x, MtC c (itr (B_strokeOf_8 mi) 0 i (F_asTold c, (-1), (-1))).1 (c 11) (c 12) (updN (c 13) mi.toNatClampNeg x) (c 14) 0) ∧ (itr (B_strokeOf_8 mi) 0 i (F_asTold c, (-1), (-1))).2 = itr (skF s mi.toNatClampNeg) 0 i (-1, -1) := by
        intro i
        induction i with
        | zero => exact fun _ => ⟨⟨c 13 mi.toNatClampNeg, by rw [updS]; exact mtTold g.1.1 g.2.1⟩, rfl⟩
        | succ i ih =>
          intro hi
          obtain ⟨⟨x, o⟩, e⟩ := ih (by omega)
          rw [itr_0, itr_0, ← e]
          generalize itr (B_strokeOf_8 mi) 0 i (F_asTold c, (-1), (-1)) = a at *
          have o2 := o.wra mi.toNatClampNeg (Int32.ofNat i)
          rw [upd2] at o2
          have ov : ovJ (tJ c (c 11) (c 12) (updN (c 13) mi.toNatClampNeg (Int32.ofNat i)) (c 14) 255) := ovT (by rw [fo 10 0 rfl]; exact h8) (fun k hk => by rw [fo 10 0 rfl] at hk; rw [cell 12 (by decide)]; exact hpw k hk) (upd_b (fun t ht => by rw [cell 13 (by decide)]; exact hrt t ht) (v03 (by omega)))
          obtain ⟨r1, r2⟩ := runT g.2.2.1 (by rw [fo 10 0 rfl]; exact h8) o2 bit0_ ov
          have eB : B_strokeOf_8 mi i a = (F_runs (uset a.1 133 mi.toNatClampNeg (Int32.ofNat i)), (bif m_cmp .le (F_runs (uset a.1 133 mi.toNatClampNeg (Int32.ofNat i)) 123 19) a.2.2 then a.2.1 else Int32.ofNat i), (bif m_cmp .le (F_runs (uset a.1 133 mi.toNatClampNeg (Int32.ofNat i)) 123 19) a.2.2 then a.2.2 else F_runs (uset a.1 133 mi.toNatClampNeg (Int32.ofNat i)) 123 19)) := rfl
          rw [eB]
          generalize F_runs (uset a.1 133 mi.toNatClampNeg (Int32.ofNat i)) = z at *
          refine ⟨⟨_, r2⟩, ?_⟩
          have eN : z 123 19 = kV s mi.toNatClampNeg i := by
            rw [r1.1, ← eSV]
            rfl
          rw [eN]
          unfold skF
          generalize kV s mi.toNatClampNeg i = y
          cases m_cmp .le y a.2.2 <;> rfl
      obtain ⟨-, e2⟩ := B 4 (Nat.le_refl _)
      generalize itr (B_strokeOf_8 mi) 0 4 (F_asTold c, (-1), (-1)) = b at *
      dsimp only
      rw [e2, ← e]
/-! years -/
def shY (v : Int32) : Int32 := (Int32.toUInt32 v >>> (Int32.toUInt32 16 &&& Int32.toUInt32 31)).toInt32
def rrY (v : Int32) : Int32 := shY v - shY v / 4 * 4
theorem shB (v : Int32) : 0 ≤ (shY v).toInt ∧ (shY v).toInt ≤ 65535 := by
  have e : (shY v).toBitVec = v.toBitVec >>> (16 : Nat) := rfl
  have n : (shY v).toBitVec.toNat = v.toBitVec.toNat / 65536 := by
    rw [e, BitVec.toNat_ushiftRight, Nat.shiftRight_eq_div_pow]
  have l := v.toBitVec.isLt
  have i : (shY v).toInt = ((shY v).toBitVec.toNat : Int) := by
    show (shY v).toBitVec.toInt = _
    rw [BitVec.toInt_eq_toNat_cond, if_pos (by rw [n]; omega)]
  rw [i, n]
  omega
theorem rr03 (v : Int32) : 0 ≤ (rrY v).toInt ∧ (rrY v).toInt ≤ 3 := by
  obtain ⟨a, b⟩ := shB v
  unfold rrY
  generalize shY v = x at *
  have e4 : (4 : Int32).toInt = 4 := by decide
  have d : (x / 4).toInt = x.toInt / 4 := by
    rw [Int32.toInt_div_of_ne_right _ _ (by decide), e4]
    exact Int.tdiv_eq_ediv_of_nonneg a
  have m : (x / 4 * 4).toInt = x.toInt / 4 * 4 := by
    rw [i32_mul (by rw [d, e4]; omega) (by rw [d, e4]; omega), d, e4]
  rw [i32_sub (by rw [m]; omega) (by rw [m]; omega), m]
  omega
def lotY (seed : Int32) : Nat → Int32
  | 0 => seed
  | i + 1 => (1103515245 * lotY seed i) + 12345
def ratY (seed n : Int32) (t : Nat) : Int32 := bif m_cmp .ge (Int32.ofNat t) n then (2 : Int32) else rrY (lotY seed (t + 1))
def mixN (f g : NI) (i : Nat) : NI := fun t => if t < i then f t else g t
theorem mix0 (f g : NI) : mixN f g 0 = g := by
  funext t
  exact if_neg (by omega)
theorem mixS (f g : NI) (i : Nat) : updN (mixN f g i) i (f i) = mixN f g (i + 1) := by
  funext t
  unfold updN mixN
  by_cases e : t = i
  · rw [if_pos e, if_pos (by omega), e]
  · rw [if_neg e]
    by_cases w : t < i
    · rw [if_pos w, if_pos (by omega)]
    · rw [if_neg w, if_neg (by omega)]
theorem rat03 (seed n : Int32) (t : Nat) : 0 ≤ (ratY seed n t).toInt ∧ (ratY seed n t).toInt ≤ 3 := by
  unfold ratY
  cases m_cmp .ge (Int32.ofNat t) n with
  | true => exact (show 0 ≤ (2 : Int32).toInt ∧ (2 : Int32).toInt ≤ 3 from by decide)
  | false => exact rr03 _
theorem q_years {s : SG} (h : KF s) (sd n wh : Int32) : QK (F_cyears s sd n wh) (fun y => F_years y sd n wh) := by
  refine ⟨(kf_years h sd n wh).ag ((fr_years _ sd n wh).ag DF rfl), ?_⟩
  have eC : F_cyears s sd n wh = bif m_cmp .eq (F_isBelow s n 25) 0 then (((-2), s)) else (bif m_cmp .ne (F_isBelow s wh 2) 0 then (bif m_cmp .ne wh 0 then F_rowOther (itr (B_cyears_19 n) 0 24 (F_take s, sd)).1 60 23 else F_rowOther (itr (B_cyears_19 n) 0 24 (F_take s, sd)).1 59 23, F_rowOther (itr (B_cyears_19 n) 0 24 (F_take s, sd)).1) else (((-2), s))) := rfl
  have eM : ∀ y, F_years y sd n wh = bif m_cmp .eq (F_in y n 0 24) 0 then ((-2 : Int32), y) else (bif m_cmp .eq (F_isTwo y wh) 0 then ((-2 : Int32), y) else (bif m_cmp .ne wh 0 then F_runs (itr (B_yearsOf_6 n) 0 24 (F_asTold y, sd)).1 123 20 else F_runs (itr (B_yearsOf_6 n) 0 24 (F_asTold y, sd)).1 123 19, F_runs (itr (B_yearsOf_6 n) 0 24 (F_asTold y, sd)).1)) := fun _ => rfl
  dsimp only
  rw [eC, bl_e, bl_n]
  cases q : bl n 25 with
  | false => rw [lF, kT, eM, in_e s n 24 25 rfl, q, lF, kT]
  | true =>
    rw [lT, kF]
    cases q2 : bl wh 2 with
    | false => rw [kF, eM, in_e s n 24 25 rfl, q, lT, kF, is2_e, q2, lF, kT]
    | true =>
      rw [kT]
      have h8 := row8 h.1.1.1 h.1.2.1.1
      have hpw : ∀ k, k < (s 10 0).toNatClampNeg → 1 ≤ (s 12 k).toInt ∧ (s 12 k).toInt ≤ 9 := fun k hk => pw19 h.1.1.1 h.1.2.1.1 hk
      obtain ⟨en, ln⟩ := bl_ofn q
      have ln : n.toNatClampNeg < 25 := ln
      have gi : ∀ i, i < 24 → m_cmp .ge (Int32.ofNat i) n = decide (n.toNatClampNeg ≤ i) := fun i hi => by
        by_cases w : n.toNatClampNeg ≤ i
        · rw [decide_eq_true w, en]
          exact m_ge_iff.mpr (by rw [ofn_int (by omega), ofn_int (by omega)]; omega)
        · rw [decide_eq_false w]
          exact ge_F (by omega)
      have A : ∀ i, i ≤ 24 → OtC s (itr (B_cyears_19 n) 0 i (F_take s, sd)).1 (s 11) (s 12) (mixN (ratY sd n) (s 13) i) (s 14) ∧ (itr (B_cyears_19 n) 0 i (F_take s, sd)).2 = lotY sd i := by
        intro i
        induction i with
        | zero => exact fun _ => ⟨by rw [mix0]; exact otTake s, rfl⟩
        | succ i ih =>
          intro hi
          obtain ⟨o, e⟩ := ih (by omega)
          rw [itr_0]
          generalize itr (B_cyears_19 n) 0 i (F_take s, sd) = a at *
          have eB : B_cyears_19 n i a = (uset a.1 56 i (bif m_cmp .ge (Int32.ofNat i) n then (2 : Int32) else rrY ((1103515245 * a.2) + 12345)), (1103515245 * a.2) + 12345) := rfl
          rw [eB, e]
          refine ⟨?_, rfl⟩
          have o2 := o.wra i (ratY sd n i)
          rw [mixS] at o2
          exact o2
      obtain ⟨o, -⟩ := A 24 (Nat.le_refl _)
      generalize itr (B_cyears_19 n) 0 24 (F_take s, sd) = a at *
      obtain ⟨r1, r2⟩ := rowO h8 h.1.2.2.1.2.2.2.2.1 o
      generalize F_rowOther a.1 = c at *
      obtain ⟨g, eJ⟩ := KG.sd h.1 r2.2.2.2.2.2
      have fo := r2.2.2.2.2.2
      have cell : ∀ b, b = 11 ∨ b = 12 ∨ b = 13 ∨ b = 14 → c b = s b := fun b hb => funext (fun j => by rcases hb with rfl | rfl | rfl | rfl <;> exact fo _ j rfl)
      dsimp only
      rw [eM, in_e c n 24 25 rfl, q, lT, kF, is2_e, q2, lT, kF]
      have B : ∀ i, i ≤ 24 → MtC c (itr (B_yearsOf_6 n) 0 i (F_asTold c, sd)).1 (c 11) (c 12) (mixN (ratY sd n) (c 13) i) (c 14) 0 ∧ (itr (B_yearsOf_6 n) 0 i (F_asTold c, sd)).2 = lotY sd (min i n.toNatClampNeg) := by
        intro i
        induction i with
        | zero => exact fun _ => ⟨by rw [mix0]; exact mtTold g.1.1 g.2.1, by rw [Nat.zero_min]; rfl⟩
        | succ i ih =>
          intro hi
          obtain ⟨o, e⟩ := ih (by omega)
          rw [itr_0]
          generalize itr (B_yearsOf_6 n) 0 i (F_asTold c, sd) = a at *
          have eB : B_yearsOf_6 n i a = (uset a.1 133 i (bif m_cmp .ge (Int32.ofNat i) n then (2 : Int32) else rrY (bif m_cmp .ge (Int32.ofNat i) n then a.2 else (1103515245 * a.2) + 12345)), bif m_cmp .ge (Int32.ofNat i) n then a.2 else (1103515245 * a.2) + 12345) := rfl
          have o2 := o.wra i (ratY sd n i)
          rw [mixS] at o2
          have eR : ratY sd n i = bif m_cmp .ge (Int32.ofNat i) n then (2 : Int32) else rrY (lotY sd (i + 1)) := rfl
          rw [eB]
          rw [eR] at o2
          have gg := gi i (by omega)
          by_cases w : n.toNatClampNeg ≤ i
          · rw [decide_eq_true w] at gg
            rw [gg, kT] at o2
            rw [gg, kT, kT]
            refine ⟨o2, ?_⟩
            show a.2 = _
            rw [e, show min i n.toNatClampNeg = min (i + 1) n.toNatClampNeg by omega]
          · rw [decide_eq_false w] at gg
            rw [gg, kF] at o2
            rw [gg, kF, kF]
            have e1 : (1103515245 * a.2) + 12345 = lotY sd (i + 1) := by
              rw [e, show min i n.toNatClampNeg = i by omega]
              rfl
            rw [e1]
            refine ⟨o2, ?_⟩
            show lotY sd (i + 1) = _
            rw [show min (i + 1) n.toNatClampNeg = i + 1 by omega]
      obtain ⟨m, -⟩ := B 24 (Nat.le_refl _)
      generalize itr (B_yearsOf_6 n) 0 24 (F_asTold c, sd) = b at *
      have ov : ovJ (tJ c (c 11) (c 12) (mixN (ratY sd n) (c 13) 24) (c 14) 255) := ovT (by rw [fo 10 0 rfl]; exact h8) (fun k hk => by rw [fo 10 0 rfl] at hk; rw [cell 12 (by decide)]; exact hpw k hk) (fun t ht => by
        have e : mixN (ratY sd n) (c 13) 24 t = ratY sd n t := if_pos ht
        rw [e]
        exact rat03 sd n t)
      obtain ⟨u1, -⟩ := runT g.2.2.1 (by rw [fo 10 0 rfl]; exact h8) m bit0_ ov
      rw [eJ, cell 11 (by decide), cell 12 (by decide), cell 13 (by decide), cell 14 (by decide)] at u1
      dsimp only
      rw [(r1 23 (by decide)).1, (r1 23 (by decide)).2.1, u1.1, u1.2.1]
end
section
/-! never and was: does a trip agree with what was seen? -/
def snB (s : SG) (J : TI) : Bool := (List.range (s 6 2).toNatClampNeg).all (fun i => m_cmp .eq (spl' (trip J ((s 7 i).toNatClampNeg + 1))) (s 8 i))
theorem all_rs (p : Nat → Bool) (n : Nat) : (List.range (n + 1)).all p = (bif (List.range n).all p then p n else false) := by
  rw [List.range_succ, List.all_append]
  cases (List.range n).all p
  · rfl
  · show (true && (p n && true)) = p n
    cases p n <;> rfl
/-- the class: left at the first that differs -/
theorem agC {p : Nat → Bool} {B : Nat → Unit → Unit ⊕ Int32} (hB : ∀ i u, B i u = bif p i then .inl () else .inr 0) : ∀ (n lo : Nat), (∀ i, i < lo → p i = true) → Sum.elim (fun _ : Unit => (1 : Int32)) (fun x : Nat × Int32 => x.2) (itx B lo n ()) = bif (List.range (lo + n)).all p then 1 else 0
  | 0, lo, h => by
    have e : (List.range (lo + 0)).all p = true := List.all_eq_true.mpr (fun i hi => h i (List.mem_range.mp hi))
    rw [e]
    rfl
  | n + 1, lo, h => by
    cases q : p lo with
    | true =>
      rw [itx_l B (x := ()) (by rw [hB, q]; rfl), agC hB n (lo + 1) (fun i hi => by
        by_cases w : i = lo
        · rw [w]; exact q
        · exact h i (by omega)), show lo + 1 + n = lo + (n + 1) by omega]
    | false =>
      have e : (List.range (lo + (n + 1))).all p = false := by
        cases w : (List.range (lo + (n + 1))).all p with
        | false => rfl
        | true =>
          have := List.all_eq_true.mp w lo (List.mem_range.mpr (by omega))
          rw [q] at this
          cases this
      rw [itx_r B (b := 0) (by rw [hB, q]; rfl), e]
      rfl
/-- the model: a flag, left behind the first that differs -/
theorem agM0 {p : Nat → Bool} {B : Nat → Int32 → Int32 ⊕ Int32} (hB : ∀ i a, B i a = bif m_cmp .eq a 0 then .inr a else .inl (bif p i then 1 else 0)) (n lo : Nat) : Sum.elim (fun z : Int32 => z) (fun x : Nat × Int32 => x.2) (itx B lo n 0) = 0 := by
  cases n with
  | zero => rfl
  | succ n =>
    rw [itx_r B (b := 0) (by rw [hB]; rfl)]
    rfl
theorem agM {p : Nat → Bool} {B : Nat → Int32 → Int32 ⊕ Int32} (hB : ∀ i a, B i a = bif m_cmp .eq a 0 then .inr a else .inl (bif p i then 1 else 0)) : ∀ (n lo : Nat), (∀ i, i < lo → p i = true) → Sum.elim (fun z : Int32 => z) (fun x : Nat × Int32 => x.2) (itx B lo n 1) = bif (List.range (lo + n)).all p then 1 else 0
  | 0, lo, h => by
    have e : (List.range (lo + 0)).all p = true := List.all_eq_true.mpr (fun i hi => h i (List.mem_range.mp hi))
    rw [e]
    rfl
  | n + 1, lo, h => by
    cases q : p lo with
    | true =>
      rw [itx_l B (x := 1) (by rw [hB, q]; rfl), agM hB n (lo + 1) (fun i hi => by
        by_cases w : i = lo
        · rw [w]; exact q
        · exact h i (by omega)), show lo + 1 + n = lo + (n + 1) by omega]
    | false =>
      have e : (List.range (lo + (n + 1))).all p = false := by
        cases w : (List.range (lo + (n + 1))).all p with
        | false => rfl
        | true =>
          have := List.all_eq_true.mp w lo (List.mem_range.mpr (by omega))
          rw [q] at this
          cases this
      rw [itx_l B (x := 0) (by rw [hB, q]; rfl), agM0 hB, e]
      rfl
theorem all_c {p r : Nat → Bool} {n : Nat} (h : ∀ i, i < n → p i = r i) : (List.range n).all p = (List.range n).all r := by
  induction n with
  | zero => rfl
  | succ n ih => rw [all_rs, all_rs, ih (fun i hi => h i (by omega)), h n (by omega)]
theorem seenC {s z : SG} {J : TI} (hS : KS s) (f : Ag DS s z) (h : COb J z) : F_agreeWith z = bif snB s J then 1 else 0 := by
  have e := agC (p := fun i => m_cmp .eq (z 60 ((z 7 i).toNatClampNeg)) (z 8 i)) (B := B_agreeWith_2 z) (fun _ _ => rfl) (z 6 2).toNatClampNeg 0 (fun i hi => absurd hi (by omega))
  have e2 : F_agreeWith z = Sum.elim (fun _ : Unit => (1 : Int32)) (fun x : Nat × Int32 => x.2) (itx (B_agreeWith_2 z) 0 (z 6 2).toNatClampNeg ()) := rfl
  rw [e2, e, Nat.zero_add, f 6 2 rfl]
  have a : (List.range (s 6 2).toNatClampNeg).all (fun i => m_cmp .eq (z 60 ((z 7 i).toNatClampNeg)) (z 8 i)) = snB s J := all_c (fun i hi => by
    obtain ⟨m, hm, em⟩ := hS.2.2.2.2 i hi
    have c : (s 7 i).toNatClampNeg < 24 := by rw [em, ofn_c (by omega)]; exact hm
    show m_cmp .eq (z 60 ((z 7 i).toNatClampNeg)) (z 8 i) = _
    rw [f 7 i rfl, f 8 i rfl, (h _ c).2.1])
  rw [a]
theorem seenM {s w : SG} {J : TI} (hS : KS s) (f : Fr W_asTold s (F_runs w)) (h : MOu J (F_runs w)) : (F_isSeen w).1 = (bif snB s J then 1 else 0) ∧ (F_isSeen w).2 = F_runs w := by
  have eF : F_isSeen w = Sum.elim (fun z2 : Int32 => (z2, F_runs w)) (fun w2 : Nat × (Int32) => (w2.2, F_runs w)) (itx (B_isSeen_6 (F_runs w)) 0 ((F_runs w 123 37).toNatClampNeg) (1 : Int32)) := rfl
  generalize F_runs w = z at *
  have e := agM (p := fun i => m_cmp .eq (z 140 ((z 145 i).toNatClampNeg)) (z 146 i)) (B := B_isSeen_6 z) (fun i a => by
    have e : B_isSeen_6 z i a = bif m_cmp .eq a 0 then (.inr a) else (.inl (bif m_cmp .ne (z 140 ((z 145 i).toNatClampNeg)) (z 146 i) then (0 : Int32) else (1 : Int32))) := rfl
    rw [e, eq_ne (z 140 ((z 145 i).toNatClampNeg)) (z 146 i)]
    cases m_cmp .ne (z 140 ((z 145 i).toNatClampNeg)) (z 146 i) <;> rfl) (z 123 37).toNatClampNeg 0 (fun i hi => absurd hi (by omega))
  have e3 : ∀ x : Int32 ⊕ (Nat × Int32), (Sum.elim (fun z2 : Int32 => (z2, z)) (fun w2 : Nat × (Int32) => (w2.2, z)) x : Int32 × SG) = (Sum.elim (fun z : Int32 => z) (fun x : Nat × Int32 => x.2) x, z) := fun x => by cases x <;> rfl
  rw [eF, e3, e, Nat.zero_add, f 123 37 rfl, ← hS.1]
  refine ⟨?_, rfl⟩
  have a : (List.range (s 6 2).toNatClampNeg).all (fun i => m_cmp .eq (z 140 ((z 145 i).toNatClampNeg)) (z 146 i)) = snB s J := all_c (fun i hi => by
    obtain ⟨m, hm, em⟩ := hS.2.2.2.2 i hi
    have i8 : i < 8 := by have := hS.2.2.1; omega
    have c : (s 7 i).toNatClampNeg < 24 := by rw [em, ofn_c (by omega)]; exact hm
    show m_cmp .eq (z 140 ((z 145 i).toNatClampNeg)) (z 146 i) = _
    rw [f 145 i rfl, f 146 i rfl, ← (hS.2.2.2.1 i i8).1, ← (hS.2.2.2.1 i i8).2, (h.2.2.2.2.2.2.2 _ c).2.1])
  dsimp only
  rw [a]
theorem eqB (b : Bool) : m_cmp .eq (bif b then (1 : Int32) else 0) 0 = !b := by cases b <;> rfl
theorem snJ {s c : SG} (f : Ag DS s c) : snB c = snB s := by
  funext J
  unfold snB
  rw [f 6 2 rfl, f.cell 7 (fun _ => rfl), f.cell 8 (fun _ => rfl)]
/-! never -/
def mkN (i : Nat) : Int32 := (255 : Int32) &&& ((1 <<< ((Int32.ofNat i) &&& 31)) ^^^ (-1 : Int32))
theorem bitNv : ∀ i, i < 8 → ∀ e, e < 8 → m_cmp .ne ((((1 : Int32) <<< ((Int32.ofNat i) &&& 31)) >>> ((Int32.ofNat e) &&& 31)) &&& 1) 0 = !(m_cmp .ne ((mkN i >>> ((Int32.ofNat e) &&& 31)) &&& 1) 0) := by decide
def nvF (s : SG) (i : Nat) (x : Int32) : Int32 := bif snB s (inC_a s (mkN i)) then x ||| (1 <<< ((Int32.ofNat i) &&& 31)) else x
theorem q_never {s : SG} (h : KF s) : QK (F_cnever s) (fun y => F_never y) := by
  refine ⟨(kf_never h).ag ((fr_never _).ag DF rfl), ?_⟩
  have eC : F_cnever s = ((itr B_cnever_4 0 ((s 2 3).toNatClampNeg) (s, 0)).2, (itr B_cnever_4 0 ((s 2 3).toNatClampNeg) (s, 0)).1) := rfl
  have eM : ∀ y, F_never y = ((itr B_neverNow_6 0 ((F_asTold y 123 11).toNatClampNeg) (F_asTold y, 0)).2, (itr B_neverNow_6 0 ((F_asTold y 123 11).toNatClampNeg) (F_asTold y, 0)).1) := fun _ => rfl
  have h8 := row8 h.1.1.1 h.1.2.1.1
  have hE := h.1.2.2.1
  have n8 : (s 2 3).toNatClampNeg ≤ 8 := hE.2.2.1
  have A : ∀ i, i ≤ (s 2 3).toNatClampNeg → Fr Wo s (itr B_cnever_4 0 i (s, 0)).1 ∧ (itr B_cnever_4 0 i (s, 0)).2 = itr (nvF s) 0 i 0 := by
    intro i
    induction i with
    | zero => exact fun _ => ⟨Fr.rf _ _, rfl⟩
    | succ i ih =>
      intro hi
      obtain ⟨f, e⟩ := ih (by omega)
      rw [itr_0, itr_0, ← e]
      generalize itr B_cnever_4 0 i (s, 0) = a at *
      have eB : B_cnever_4 i a = (F_row_c a.1 (mkN i), bif m_cmp .eq (F_agreeWith (F_row_c a.1 (mkN i))) 0 then a.2 else (a.2 ||| (1 <<< ((Int32.ofNat i) &&& 31)))) := rfl
      have ha : evC a.1 := by
        have hev := hE.2.2.2.2.1
        unfold evC at *
        rw [f 2 3 rfl]
        intro e he
        rw [f 3 e rfl, f 4 e rfl]
        exact hev e he
      obtain ⟨m, p, R⟩ := rowC_c (s := a.1) (mask := mkN i) (by rw [f 10 0 rfl]; exact h8) ha
      rw [eB]
      generalize F_row_c a.1 (mkN i) = z at *
      obtain ⟨g, -, -, -, -, -, r4⟩ := R
      have g : Fr W_row_c a.1 z := g
      have r4 : OuC_c (inC_c a.1 (mkN i)) 24 z := r4
      rw [inCc, inC_ag (f.ag DJ rfl)] at r4
      have fz : Fr Wo s z := f.tr (g.wk rfl)
      refine ⟨fz, ?_⟩
      have co : COb (inC_a s (mkN i)) z := fun t ht => ⟨(r4 t ht).1, (r4 t ht).2.1, (r4 t ht).2.2.2.2.1⟩
      rw [seenC h.1.2.2.2.1 (fz.ag DS rfl) co, eqB]
      unfold nvF
      cases snB s (inC_a s (mkN i)) <;> rfl
  obtain ⟨f, e⟩ := A _ (Nat.le_refl _)
  rw [eC]
  generalize itr B_cnever_4 0 ((s 2 3).toNatClampNeg) (s, 0) = a at *
  obtain ⟨c, p⟩ := a
  dsimp only at f e ⊢
  obtain ⟨g, eJ⟩ := KG.sd h.1 f
  have mt := mtTold g.1.1 g.2.1
  have en : (F_asTold c 123 11).toNatClampNeg = (s 2 3).toNatClampNeg := by
    rw [mt.2.2.2.2.2 123 11 rfl, f 123 11 rfl, hE.1]
  rw [eM, en]
  have cell : ∀ b, b = 11 ∨ b = 12 ∨ b = 13 ∨ b = 14 → c b = s b := fun b hb => funext (fun j => by rcases hb with rfl | rfl | rfl | rfl <;> exact f _ j rfl)
  have B : ∀ i, i ≤ (s 2 3).toNatClampNeg → (∃ x, MtC c (itr B_neverNow_6 0 i (F_asTold c, 0)).1 (c 11) (c 12) (c 13) (c 14) x) ∧ (itr B_neverNow_6 0 i (F_asTold c, 0)).2 = itr (nvF s) 0 i 0 := by
    intro i
    induction i with
    | zero => exact fun _ => ⟨⟨0, mt⟩, rfl⟩
    | succ i ih =>
      intro hi
      obtain ⟨⟨x, o⟩, e⟩ := ih (by omega)
      rw [itr_0, itr_0, ← e]
      generalize itr B_neverNow_6 0 i (F_asTold c, 0) = a at *
      have o2 := o.wset (1 <<< ((Int32.ofNat i) &&& 31))
      have ov : ovJ (tJ c (c 11) (c 12) (c 13) (c 14) (mkN i)) := ovC g.1.1 g.2.1 (mkN i)
      obtain ⟨r1, r2⟩ := runT g.2.2.1 (by rw [f 10 0 rfl]; exact h8) o2 (bitNv i (by omega)) ov
      obtain ⟨u1, u2⟩ := seenM (J := tJ c (c 11) (c 12) (c 13) (c 14) (mkN i)) g.2.2.2.1 r2.2.2.2.2.2 r1
      have eB : B_neverNow_6 i a = ((F_isSeen (uset a.1 123 17 (1 <<< ((Int32.ofNat i) &&& 31)))).2, a.2 ||| (bif m_cmp .eq (F_isSeen (uset a.1 123 17 (1 <<< ((Int32.ofNat i) &&& 31)))).1 0 then (0 : Int32) else 1 <<< ((Int32.ofNat i) &&& 31))) := rfl
      rw [eB, u1, u2, eqB, snJ (f.ag DS rfl), eJ, cell 11 (by decide), cell 12 (by decide), cell 13 (by decide), cell 14 (by decide)]
      refine ⟨⟨_, by
        have r3 := r2
        rw [cell 11 (by decide), cell 12 (by decide), cell 13 (by decide), cell 14 (by decide)] at r3
        exact r3⟩, ?_⟩
      have eI : inC_a s (mkN i) = tJ s (s 11) (s 12) (s 13) (s 14) (mkN i) := rfl
      unfold nvF
      rw [eI]
      cases snB s (tJ s (s 11) (s 12) (s 13) (s 14) (mkN i)) with
      | true => rfl
      | false => exact or0 _
  obtain ⟨-, e2⟩ := B _ (Nat.le_refl _)
  dsimp only
  rw [e2, ← e]
/-! was -/
def pJ (s : SG) (k v : Nat) : TI := tJ s (s 11) (updN (s 12) k (Int32.ofNat v)) (s 13) (s 14) 255
def oJ (s : SG) (k v : Nat) : TI := tJ s (updN (s 11) k (Int32.ofNat v)) (s 12) (s 13) (s 14) 255
def bF (p : Nat → Bool) (v : Nat) (x : Int32) : Int32 := bif p v then x ||| (1 <<< ((Int32.ofNat v) &&& 31)) else x
theorem psC {s : SG} (h : KG s) (k : Int32) : ∀ n, n ≤ 9 → (∃ x, OtC s (itr (B_possiblePowers_9 k) 1 n (F_take s, 0)).1 (s 11) (updN (s 12) k.toNatClampNeg x) (s 13) (s 14)) ∧ (itr (B_possiblePowers_9 k) 1 n (F_take s, 0)).2 = itr (bF (fun v => snB s (pJ s k.toNatClampNeg v))) 1 n 0 ∧ ∀ u, 1 ≤ u → u ≤ n → snB s (pJ s k.toNatClampNeg u) = true → ∀ t, t < 24 → (itr (B_possiblePowers_9 k) 1 n (F_take s, 0)).1 (98 + u) t = spl' (trip (pJ s k.toNatClampNeg u) (t + 1)) := by
  have h8 := row8 h.1.1 h.2.1.1
  intro n
  induction n with
  | zero => exact fun _ => ⟨⟨s 12 k.toNatClampNeg, by rw [updS]; exact otTake s⟩, rfl, fun u u1 u2 => absurd u1 (by omega)⟩
  | succ n ih =>
    intro hn
    obtain ⟨⟨x, o⟩, e, r⟩ := ih (by omega)
    rw [itr_succ, itr_succ, ← e]
    generalize itr (B_possiblePowers_9 k) 1 n (F_take s, 0) = a at *
    have o2 := o.wpo k.toNatClampNeg (Int32.ofNat (1 + n))
    rw [upd2] at o2
    obtain ⟨r1, r2⟩ := rowO h8 h.2.2.1.2.2.2.2.1 o2
    have eB : B_possiblePowers_9 k (1 + n) a = ((bif m_cmp .eq (F_agreeWith (F_rowOther (uset a.1 55 k.toNatClampNeg (Int32.ofNat (1 + n))))) 0 then (a.2, F_rowOther (uset a.1 55 k.toNatClampNeg (Int32.ofNat (1 + n)))) else ((a.2 ||| (1 <<< ((Int32.ofNat (1 + n)) &&& 31))), (mvs (F_rowOther (uset a.1 55 k.toNatClampNeg (Int32.ofNat (1 + n)))) 60 0 (98 + (1 + n)) 0 24))).2, (bif m_cmp .eq (F_agreeWith (F_rowOther (uset a.1 55 k.toNatClampNeg (Int32.ofNat (1 + n))))) 0 then (a.2, F_rowOther (uset a.1 55 k.toNatClampNeg (Int32.ofNat (1 + n)))) else ((a.2 ||| (1 <<< ((Int32.ofNat (1 + n)) &&& 31))), (mvs (F_rowOther (uset a.1 55 k.toNatClampNeg (Int32.ofNat (1 + n)))) 60 0 (98 + (1 + n)) 0 24))).1) := rfl
    have fr := fr_rowOtherN (uset a.1 55 k.toNatClampNeg (Int32.ofNat (1 + n)))
    rw [eB]
    generalize F_rowOther (uset a.1 55 k.toNatClampNeg (Int32.ofNat (1 + n))) = z at *
    have co : COb (pJ s k.toNatClampNeg (1 + n)) z := r1
    have zk : ∀ u t, 1 ≤ u → u ≤ 9 → z (98 + u) t = a.1 (98 + u) t := fun u t u1 u2 => by
      rw [(fr.ag [(98, 108, none)] rfl) (98 + u) t (inW_r 98 108 (by omega) (by omega) rfl)]
      exact uset_na (by omega)
    rw [seenC h.2.2.2.1 (r2.2.2.2.2.2.ag DS rfl) co, eqB]
    cases q : snB s (pJ s k.toNatClampNeg (1 + n)) with
    | false =>
      rw [lF, kT]
      refine ⟨⟨_, r2⟩, ?_, fun u u1 u2 hu t ht => ?_⟩
      · unfold bF; (try dsimp only)
        rw [q, kF]
      · by_cases w : u = 1 + n
        · rw [w, q] at hu; cases hu
        · dsimp only
          rw [zk u t u1 (by omega)]
          exact r u u1 (by omega) hu t ht
    | true =>
      rw [lT, kF]
      have mn : ∀ b j, b ≠ 98 + (1 + n) → mvs z 60 0 (98 + (1 + n)) 0 24 b j = z b j := fun b j hb => if_neg (fun q => hb q.1)
      refine ⟨⟨Int32.ofNat (1 + n), ?_⟩, ?_, fun u u1 u2 hu t ht => ?_⟩
      · obtain ⟨p1, p2, p3, p4, p5, p6⟩ := r2
        exact ⟨(mn _ _ (by omega)).trans p1, fun k hk => ⟨(mn _ _ (by omega)).trans (p2 k hk).1, (mn _ _ (by omega)).trans (p2 k hk).2⟩, fun t ht => ⟨(mn _ _ (by omega)).trans (p3 t ht).1, (mn _ _ (by omega)).trans (p3 t ht).2⟩, (mn _ _ (by omega)).trans p4, (mn _ _ (by omega)).trans p5, frMvsR 98 108 (by omega) (by omega) rfl p6⟩
      · unfold bF; (try dsimp only)
        rw [q, kT]
      · dsimp only
        by_cases w : u = 1 + n
        · rw [w]
          have e : mvs z 60 0 (98 + (1 + n)) 0 24 (98 + (1 + n)) t = z 60 (0 + (t - 0)) := if_pos ⟨rfl, by omega, by omega⟩
          rw [e, show 0 + (t - 0) = t by omega]
          exact (co t ht).2.1
        · rw [mn _ _ (by omega), zk u t u1 (by omega)]
          exact r u u1 (by omega) hu t ht
theorem pwM {v : Nat} (z : SG) : ∀ n, n ≤ 24 → (∀ t, t < n → itr (B_powersBy_32 v) 0 n z 147 (24 * v + t) = z 140 t) ∧ ∀ b j, ¬ (b = 147 ∧ 24 * v ≤ j ∧ j < 24 * v + n) → itr (B_powersBy_32 v) 0 n z b j = z b j := by
  intro n
  induction n with
  | zero => exact fun _ => ⟨fun t ht => absurd ht (by omega), fun b j _ => rfl⟩
  | succ n ih =>
    intro hn
    obtain ⟨k1, k2⟩ := ih (by omega)
    rw [itr_0]
    generalize itr (B_powersBy_32 v) 0 n z = a at *
    have e : B_powersBy_32 v n a = uset a 147 (24 * v + n) (z 140 n) := by
      unfold B_powersBy_32
      dsimp only
      rw [k2 140 n (by omega)]
    rw [e]
    refine ⟨fun t ht => ?_, fun b j hb => ?_⟩
    · by_cases w : t = n
      · rw [w]; exact uset_eq _ _ _ _
      · rw [uset_nj (by omega)]; exact k1 t (by omega)
    · rw [uset_ne (by omega)]; exact k2 b j (by omega)
theorem v19 {v : Nat} (h1 : 1 ≤ v) (h : v ≤ 9) : 1 ≤ (Int32.ofNat v).toInt ∧ (Int32.ofNat v).toInt ≤ 9 := by
  rw [ofn_int (by omega)]
  omega
theorem psM {c : SG} (g : KG c) (k : Int32) : ∀ n, n ≤ 9 → (∃ x, MtC c (itr (B_powersBy_11 k) 1 n (F_asTold c, 0)).1 (c 11) (updN (c 12) k.toNatClampNeg x) (c 13) (c 14) 0) ∧ (itr (B_powersBy_11 k) 1 n (F_asTold c, 0)).2 = itr (bF (fun v => snB c (pJ c k.toNatClampNeg v))) 1 n 0 ∧ ∀ u, 1 ≤ u → u ≤ n → ∀ t, t < 24 → (itr (B_powersBy_11 k) 1 n (F_asTold c, 0)).1 147 (24 * u + t) = spl' (trip (pJ c k.toNatClampNeg u) (t + 1)) := by
  have h8 := row8 g.1.1 g.2.1.1
  intro n
  induction n with
  | zero => exact fun _ => ⟨⟨c 12 k.toNatClampNeg, by rw [updS]; exact mtTold g.1.1 g.2.1⟩, rfl, fun u u1 u2 => absurd u1 (by omega)⟩
  | succ n ih =>
    intro hn
    obtain ⟨⟨x, o⟩, e, r⟩ := ih (by omega)
    rw [itr_succ, itr_succ, ← e]
    generalize itr (B_powersBy_11 k) 1 n (F_asTold c, 0) = a at *
    have o2 := o.wpo k.toNatClampNeg (Int32.ofNat (1 + n))
    rw [upd2] at o2
    have ov : ovJ (tJ c (c 11) (updN (c 12) k.toNatClampNeg (Int32.ofNat (1 + n))) (c 13) (c 14) 255) := ovT h8 (upd_b (fun j hj => pw19 g.1.1 g.2.1.1 hj) (v19 (by omega) (by omega))) (fun t ht => rt03 g.2.1.2.1 ht)
    obtain ⟨r1, r2⟩ := runT g.2.2.1 h8 o2 bit0_ ov
    obtain ⟨u1, u2⟩ := seenM (J := pJ c k.toNatClampNeg (1 + n)) g.2.2.2.1 r2.2.2.2.2.2 r1
    have eB : B_powersBy_11 k (1 + n) a = (itr (B_powersBy_32 (1 + n)) 0 24 (F_isSeen (uset a.1 127 k.toNatClampNeg (Int32.ofNat (1 + n)))).2, a.2 ||| (bif m_cmp .eq (F_isSeen (uset a.1 127 k.toNatClampNeg (Int32.ofNat (1 + n)))).1 0 then (0 : Int32) else 1 <<< ((Int32.ofNat (1 + n)) &&& 31))) := rfl
    have fr := fr_runs (uset a.1 127 k.toNatClampNeg (Int32.ofNat (1 + n)))
    rw [eB, u1, u2, eqB]
    generalize F_runs (uset a.1 127 k.toNatClampNeg (Int32.ofNat (1 + n))) = z at *
    obtain ⟨w1, w2⟩ := pwM (v := 1 + n) z 24 (Nat.le_refl _)
    generalize itr (B_powersBy_32 (1 + n)) 0 24 z = y at *
    refine ⟨⟨Int32.ofNat (1 + n), ?_⟩, ?_, fun u v1 v2 t ht => ?_⟩
    · obtain ⟨p1, p2, p3, p4, p5, p6⟩ := r2
      refine ⟨(w2 _ _ (by omega)).trans p1, fun k hk => ⟨(w2 _ _ (by omega)).trans (p2 k hk).1, (w2 _ _ (by omega)).trans (p2 k hk).2⟩, fun t ht => ⟨(w2 _ _ (by omega)).trans (p3 t ht).1, (w2 _ _ (by omega)).trans (p3 t ht).2⟩, fun k hk => (w2 _ _ (by omega)).trans (p4 k hk), (w2 _ _ (by omega)).trans p5, p6.tr (fun b j hb => w2 b j (fun q => ?_))⟩
      rw [q.1] at hb
      cases hb
    · dsimp only
      unfold bF; (try dsimp only)
      cases snB c (pJ c k.toNatClampNeg (1 + n)) with
      | true => rfl
      | false => exact or0 _
    · dsimp only
      by_cases w : u = 1 + n
      · rw [w, w1 t ht]
        exact (r1.2.2.2.2.2.2.2 t ht).2.1
      · rw [w2 147 _ (by omega), fr 147 _ rfl, uset_na (by decide)]
        exact r u v1 (by omega) t ht
theorem soC {s : SG} (h : KG s) (k : Int32) : ∀ n, n ≤ 3 → (∃ x, OtC s (itr (B_possibleSorts_9 k) 0 n (F_take s, 0)).1 (updN (s 11) k.toNatClampNeg x) (s 12) (s 13) (s 14)) ∧ (itr (B_possibleSorts_9 k) 0 n (F_take s, 0)).2 = itr (bF (fun v => snB s (oJ s k.toNatClampNeg v))) 0 n 0 := by
  have h8 := row8 h.1.1 h.2.1.1
  intro n
  induction n with
  | zero => exact fun _ => ⟨⟨s 11 k.toNatClampNeg, by rw [updS]; exact otTake s⟩, rfl⟩
  | succ n ih =>
    intro hn
    obtain ⟨⟨x, o⟩, e⟩ := ih (by omega)
    rw [itr_0, itr_0, ← e]
    generalize itr (B_possibleSorts_9 k) 0 n (F_take s, 0) = a at *
    have o2 := o.wso k.toNatClampNeg (Int32.ofNat n)
    rw [upd2] at o2
    obtain ⟨r1, r2⟩ := rowO h8 h.2.2.1.2.2.2.2.1 o2
    have eB : B_possibleSorts_9 k n a = (F_rowOther (uset a.1 54 k.toNatClampNeg (Int32.ofNat n)), bif m_cmp .eq (F_agreeWith (F_rowOther (uset a.1 54 k.toNatClampNeg (Int32.ofNat n)))) 0 then a.2 else (a.2 ||| (1 <<< ((Int32.ofNat n) &&& 31)))) := rfl
    rw [eB]
    generalize F_rowOther (uset a.1 54 k.toNatClampNeg (Int32.ofNat n)) = z at *
    have co : COb (oJ s k.toNatClampNeg n) z := r1
    rw [seenC h.2.2.2.1 (r2.2.2.2.2.2.ag DS rfl) co, eqB]
    refine ⟨⟨_, r2⟩, ?_⟩
    unfold bF; (try dsimp only)
    cases snB s (oJ s k.toNatClampNeg n) <;> rfl
theorem soM {c : SG} (g : KG c) (k : Int32) : ∀ n, n ≤ 3 → (∃ x, MtC c (itr (B_sortsBy_11 k) 0 n (F_asTold c, 0)).1 (updN (c 11) k.toNatClampNeg x) (c 12) (c 13) (c 14) 0) ∧ (itr (B_sortsBy_11 k) 0 n (F_asTold c, 0)).2 = itr (bF (fun v => snB c (oJ c k.toNatClampNeg v))) 0 n 0 := by
  have h8 := row8 g.1.1 g.2.1.1
  intro n
  induction n with
  | zero => exact fun _ => ⟨⟨c 11 k.toNatClampNeg, by rw [updS]; exact mtTold g.1.1 g.2.1⟩, rfl⟩
  | succ n ih =>
    intro hn
    obtain ⟨⟨x, o⟩, e⟩ := ih (by omega)
    rw [itr_0, itr_0, ← e]
    generalize itr (B_sortsBy_11 k) 0 n (F_asTold c, 0) = a at *
    have o2 := o.wso k.toNatClampNeg (Int32.ofNat n)
    rw [upd2] at o2
    have ov : ovJ (tJ c (updN (c 11) k.toNatClampNeg (Int32.ofNat n)) (c 12) (c 13) (c 14) 255) := ovT h8 (fun j hj => pw19 g.1.1 g.2.1.1 hj) (fun t ht => rt03 g.2.1.2.1 ht)
    obtain ⟨r1, r2⟩ := runT g.2.2.1 h8 o2 bit0_ ov
    obtain ⟨u1, u2⟩ := seenM (J := oJ c k.toNatClampNeg n) g.2.2.2.1 r2.2.2.2.2.2 r1
    have eB : B_sortsBy_11 k n a = ((F_isSeen (uset a.1 126 k.toNatClampNeg (Int32.ofNat n))).2, a.2 ||| (bif m_cmp .eq (F_isSeen (uset a.1 126 k.toNatClampNeg (Int32.ofNat n))).1 0 then (0 : Int32) else 1 <<< ((Int32.ofNat n) &&& 31))) := rfl
    rw [eB, u1, u2, eqB]
    refine ⟨⟨_, r2⟩, ?_⟩
    dsimp only
    unfold bF; (try dsimp only)
    cases snB c (oJ c k.toNatClampNeg n) with
    | true => rfl
    | false => exact or0 _
theorem sdJ {s c : SG} (f : Fr Wo s c) (g : tJ c = tJ s) (k : Nat) : (fun v => snB c (pJ c k v)) = (fun v => snB s (pJ s k v)) ∧ (fun v => snB c (oJ c k v)) = (fun v => snB s (oJ s k v)) ∧ pJ c k = pJ s k := by
  have cell : ∀ b, b = 11 ∨ b = 12 ∨ b = 13 ∨ b = 14 → c b = s b := fun b hb => funext (fun j => by rcases hb with rfl | rfl | rfl | rfl <;> exact f _ j rfl)
  have e1 : pJ c k = pJ s k := by
    funext v
    unfold pJ
    rw [g, cell 11 (by decide), cell 12 (by decide), cell 13 (by decide), cell 14 (by decide)]
  have e2 : oJ c k = oJ s k := by
    funext v
    unfold oJ
    rw [g, cell 11 (by decide), cell 12 (by decide), cell 13 (by decide), cell 14 (by decide)]
  rw [e1, e2, snJ (f.ag DS rfl)]
  exact ⟨rfl, rfl, rfl⟩
theorem rdS {s c : SG} (h : KG s) (f : Fr Wo s c) (k : Nat) : KG (F_reads c) ∧ (fun v => snB (F_reads c) (pJ (F_reads c) k v)) = (fun v => snB s (pJ s k v)) ∧ (fun v => snB (F_reads c) (oJ (F_reads c) k v)) = (fun v => snB s (oJ s k v)) ∧ pJ (F_reads c) k = pJ s k := by
  obtain ⟨g, eJ⟩ := KG.sd h f
  obtain ⟨a1, a2, a3⟩ := sdJ f eJ k
  have fr := fr_reads c
  generalize F_reads c = d at *
  have cell : ∀ b, b = 11 ∨ b = 12 ∨ b = 13 ∨ b = 14 → d b = c b := fun b hb => funext (fun j => by rcases hb with rfl | rfl | rfl | rfl <;> exact fr _ j rfl)
  have eJ2 : tJ d = tJ c := by
    funext so po ra ru mask
    unfold tJ
    rw [befC_ag (fr.ag DJ rfl) mask, fr 10 0 rfl, fr 10 5 rfl, fr 10 6 rfl]
  have e1 : pJ d k = pJ c k := by
    funext v
    unfold pJ
    rw [eJ2, cell 11 (by decide), cell 12 (by decide), cell 13 (by decide), cell 14 (by decide)]
  have e2 : oJ d k = oJ c k := by
    funext v
    unfold oJ
    rw [eJ2, cell 11 (by decide), cell 12 (by decide), cell 13 (by decide), cell 14 (by decide)]
  rw [e1, e2, snJ (fr.ag DS rfl)]
  exact ⟨g.ag (fr.ag DG rfl), a1, a2, a3⟩
theorem mkF {α β : Type} (a : α) (b : β) : (a, b).1 = a := rfl
theorem mkS {α β : Type} (a : α) (b : β) : (a, b).2 = b := rfl
theorem itr9 {α : Type} (f : Nat → α → α) (a : α) : itr f 1 (10 - 1) a = itr f 1 9 a := rfl
theorem pwE (c : SG) (k : Int32) : F_powersBy c k = ((itr (B_powersBy_11 k) 1 9 (F_asTold c, 0)).2, (uset (itr (B_powersBy_11 k) 1 9 (F_asTold c, 0)).1 127 k.toNatClampNeg (F_asTold c 127 k.toNatClampNeg))) := by
  have e : F_powersBy c k = ((itr (B_powersBy_11 k) 1 (10 - 1) (F_asTold c, 0)).2, (uset (itr (B_powersBy_11 k) 1 (10 - 1) (F_asTold c, 0)).1 127 k.toNatClampNeg (F_asTold c 127 k.toNatClampNeg))) := rfl
  rw [e, itr9]
theorem ppE (s : SG) (k : Int32) : F_possiblePowers s k = ((itr (B_possiblePowers_9 k) 1 9 (F_take s, 0)).2, (itr (B_possiblePowers_9 k) 1 9 (F_take s, 0)).1) := by
  have e : F_possiblePowers s k = ((itr (B_possiblePowers_9 k) 1 (10 - 1) (F_take s, 0)).2, (itr (B_possiblePowers_9 k) 1 (10 - 1) (F_take s, 0)).1) := rfl
  rw [e, itr9]
theorem was_s {s : SG} (h : KG s) (k : Int32) : Fr Wo s (F_possibleSorts s k).2 ∧ (F_possibleSorts s k).1 = (F_sortsBy (F_reads (F_possibleSorts s k).2) k).1 := by
  have eS : ∀ c : SG, (F_sortsBy c k).1 = (itr (B_sortsBy_11 k) 0 3 (F_asTold c, 0)).2 := fun c => by
    dsimp only [F_sortsBy]
  have eCS : F_possibleSorts s k = ((itr (B_possibleSorts_9 k) 0 3 (F_take s, 0)).2, (itr (B_possibleSorts_9 k) 0 3 (F_take s, 0)).1) := by
    dsimp only [F_possibleSorts]
  obtain ⟨⟨x, o⟩, e⟩ := soC h k 3 (Nat.le_refl _)
  rw [eCS]
  generalize itr (B_possibleSorts_9 k) 0 3 (F_take s, 0) = a at *
  have f := o.2.2.2.2.2
  obtain ⟨g2, -, b2, -⟩ := rdS h f k.toNatClampNeg
  dsimp only
  refine ⟨f, ?_⟩
  rw [eS, (soM g2 k 3 (Nat.le_refl _)).2, b2, e]
theorem pwX {d : SG} (g : KG d) (k : Int32) : (F_powersBy d k).1 = itr (bF fun v => snB d (pJ d k.toNatClampNeg v)) 1 9 0 := by
  rw [pwE, mkF]
  exact (psM g k 9 (Nat.le_refl _)).2.1
theorem ppX {s : SG} (h : KG s) (k : Int32) : Fr Wo s (F_possiblePowers s k).2 := by
  rw [ppE, mkS]
  obtain ⟨x, o⟩ := (psC h k 9 (Nat.le_refl _)).1
  exact o.2.2.2.2.2
theorem ppY {s : SG} (h : KG s) (k : Int32) : (F_possiblePowers s k).1 = itr (bF fun v => snB s (pJ s k.toNatClampNeg v)) 1 9 0 := by
  rw [ppE, mkF]
  exact (psC h k 9 (Nat.le_refl _)).2.1
theorem was_p {s : SG} (h : KG s) (k : Int32) : Fr Wo s (F_possiblePowers s k).2 ∧ (F_possiblePowers s k).1 = (F_powersBy (F_reads (F_possiblePowers s k).2) k).1 := by
  have f := ppX h k
  obtain ⟨g2, b1, -, -⟩ := rdS h f k.toNatClampNeg
  refine ⟨f, ?_⟩
  rw [ppY h k, pwX g2 k, b1]
theorem was_M {c : SG} (g : KG c) (k wh : Int32) : (F_was c k wh).1 = bif bl k (c 10 0) then (bif bl wh 2 then (bif m_cmp .ne wh 0 then (F_sortsBy (F_reads c) k).1 else (F_powersBy (F_reads c) k).1) else -2) else -2 := by
  obtain ⟨i1, i2⟩ := isRw g.1.1 g.2.1 k
  have eM : F_was c k wh = bif m_cmp .eq (F_isRower c k).1 0 then ((-2 : Int32), (F_isRower c k).2) else (bif m_cmp .eq (F_isTwo (F_isRower c k).2 wh) 0 then ((-2 : Int32), (F_isRower c k).2) else (bif m_cmp .ne wh 0 then (F_sortsBy (F_isRower c k).2 k) else (F_powersBy (F_isRower c k).2 k))) := by
    dsimp only [F_was]
  rw [eM, i1, i2, is2_e]
  cases bl k (c 10 0) with
  | false => rw [lF, kT, kF]
  | true =>
    rw [lT, kF, kT]
    cases bl wh 2 with
    | false => rw [lF, kT, kF]
    | true =>
      rw [lT, kF, kT]
      cases m_cmp .ne wh 0 with
      | false => rw [kF, kF]
      | true => rw [kT, kT]
theorem was_C (s : SG) (k wh : Int32) : F_cwas s k wh = bif bl k (s 10 0) then (bif bl wh 2 then (bif m_cmp .ne wh 0 then F_possibleSorts s k else F_possiblePowers s k) else ((-2), s)) else ((-2), s) := by
  dsimp only [F_cwas]
  rw [cisR_e, bl_n]
  cases bl k (s 10 0) with
  | false => rw [lF, kT, kF]
  | true => rw [lT, kF, kT]
theorem q_was {s : SG} (h : KF s) (k wh : Int32) : QK (F_cwas s k wh) (fun y => F_was y k wh) := by
  refine ⟨(kf_was h k wh).ag ((fr_was _ k wh).ag DF rfl), ?_⟩
  have eC := was_C s k wh
  cases q : bl k (s 10 0) with
  | false =>
    rw [q, kF] at eC
    rw [eC]
    dsimp only
    rw [was_M h.1, q, kF]
  | true =>
    cases q2 : bl wh 2 with
    | false =>
      rw [q, q2, kT, kF] at eC
      rw [eC]
      dsimp only
      rw [was_M h.1, q, q2, kT, kF]
    | true =>
      cases w : m_cmp .ne wh 0 with
      | true =>
        rw [q, q2, w, kT, kT, kT] at eC
        rw [eC]
        obtain ⟨f, e⟩ := was_s h.1 k
        generalize F_possibleSorts s k = a at *
        dsimp only
        rw [was_M (KG.sd h.1 f).1, f 10 0 rfl, q, q2, w, kT, kT, kT]
        exact e
      | false =>
        rw [q, q2, w, kT, kT, kF] at eC
        rw [eC]
        obtain ⟨f, e⟩ := was_p h.1 k
        generalize F_possiblePowers s k = a at *
        dsimp only
        rw [was_M (KG.sd h.1 f).1, f 10 0 rfl, q, q2, w, kT, kT, kF]
        exact e
end
section
/-! ask -/
def b9 (b1 b2 b3 b4 b5 b6 b7 b8 b9_ : Bool) : Int32 := bF (fun _ => b9_) 9 (bF (fun _ => b8) 8 (bF (fun _ => b7) 7 (bF (fun _ => b6) 6 (bF (fun _ => b5) 5 (bF (fun _ => b4) 4 (bF (fun _ => b3) 3 (bF (fun _ => b2) 2 (bF (fun _ => b1) 1 (0 : Int32)))))))))
theorem b9_1 : ∀ b1 b2 b3 b4 b5 b6 b7 b8 b9_ : Bool, m_cmp .ne ((b9 b1 b2 b3 b4 b5 b6 b7 b8 b9_ >>> ((Int32.ofNat 1) &&& 31)) &&& 1) 0 = b1 := by decide +kernel
theorem b9_2 : ∀ b1 b2 b3 b4 b5 b6 b7 b8 b9_ : Bool, m_cmp .ne ((b9 b1 b2 b3 b4 b5 b6 b7 b8 b9_ >>> ((Int32.ofNat 2) &&& 31)) &&& 1) 0 = b2 := by decide +kernel
theorem b9_3 : ∀ b1 b2 b3 b4 b5 b6 b7 b8 b9_ : Bool, m_cmp .ne ((b9 b1 b2 b3 b4 b5 b6 b7 b8 b9_ >>> ((Int32.ofNat 3) &&& 31)) &&& 1) 0 = b3 := by decide +kernel
theorem b9_4 : ∀ b1 b2 b3 b4 b5 b6 b7 b8 b9_ : Bool, m_cmp .ne ((b9 b1 b2 b3 b4 b5 b6 b7 b8 b9_ >>> ((Int32.ofNat 4) &&& 31)) &&& 1) 0 = b4 := by decide +kernel
theorem b9_5 : ∀ b1 b2 b3 b4 b5 b6 b7 b8 b9_ : Bool, m_cmp .ne ((b9 b1 b2 b3 b4 b5 b6 b7 b8 b9_ >>> ((Int32.ofNat 5) &&& 31)) &&& 1) 0 = b5 := by decide +kernel
theorem b9_6 : ∀ b1 b2 b3 b4 b5 b6 b7 b8 b9_ : Bool, m_cmp .ne ((b9 b1 b2 b3 b4 b5 b6 b7 b8 b9_ >>> ((Int32.ofNat 6) &&& 31)) &&& 1) 0 = b6 := by decide +kernel
theorem b9_7 : ∀ b1 b2 b3 b4 b5 b6 b7 b8 b9_ : Bool, m_cmp .ne ((b9 b1 b2 b3 b4 b5 b6 b7 b8 b9_ >>> ((Int32.ofNat 7) &&& 31)) &&& 1) 0 = b7 := by decide +kernel
theorem b9_8 : ∀ b1 b2 b3 b4 b5 b6 b7 b8 b9_ : Bool, m_cmp .ne ((b9 b1 b2 b3 b4 b5 b6 b7 b8 b9_ >>> ((Int32.ofNat 8) &&& 31)) &&& 1) 0 = b8 := by decide +kernel
theorem b9_9 : ∀ b1 b2 b3 b4 b5 b6 b7 b8 b9_ : Bool, m_cmp .ne ((b9 b1 b2 b3 b4 b5 b6 b7 b8 b9_ >>> ((Int32.ofNat 9) &&& 31)) &&& 1) 0 = b9_ := by decide +kernel
theorem b9_e (p : Nat → Bool) : itr (bF p) 1 9 0 = b9 (p 1) (p 2) (p 3) (p 4) (p 5) (p 6) (p 7) (p 8) (p 9) := by
  rw [show (9 : Nat) = 8 + 1 from rfl, itr_succ, show (8 : Nat) = 7 + 1 from rfl, itr_succ, show (7 : Nat) = 6 + 1 from rfl, itr_succ, show (6 : Nat) = 5 + 1 from rfl, itr_succ, show (5 : Nat) = 4 + 1 from rfl, itr_succ, show (4 : Nat) = 3 + 1 from rfl, itr_succ, show (3 : Nat) = 2 + 1 from rfl, itr_succ, show (2 : Nat) = 1 + 1 from rfl, itr_succ, show (1 : Nat) = 0 + 1 from rfl, itr_succ, itr_z]
  rfl
theorem b9_t (p : Nat → Bool) : ∀ v, 1 ≤ v → v ≤ 9 → m_cmp .ne ((itr (bF p) 1 9 0 >>> ((Int32.ofNat v) &&& 31)) &&& 1) 0 = p v := by
  intro v h1 h2
  rw [b9_e]
  have hv : v = 1 ∨ v = 2 ∨ v = 3 ∨ v = 4 ∨ v = 5 ∨ v = 6 ∨ v = 7 ∨ v = 8 ∨ v = 9 := by omega
  rcases hv with rfl | rfl | rfl | rfl | rfl | rfl | rfl | rfl | rfl
  · exact b9_1 _ _ _ _ _ _ _ _ _
  · exact b9_2 _ _ _ _ _ _ _ _ _
  · exact b9_3 _ _ _ _ _ _ _ _ _
  · exact b9_4 _ _ _ _ _ _ _ _ _
  · exact b9_5 _ _ _ _ _ _ _ _ _
  · exact b9_6 _ _ _ _ _ _ _ _ _
  · exact b9_7 _ _ _ _ _ _ _ _ _
  · exact b9_8 _ _ _ _ _ _ _ _ _
  · exact b9_9 _ _ _ _ _ _ _ _ _
theorem hb_t (p : Nat → Bool) (a : SG) (v : Nat) (h1 : 1 ≤ v) (h2 : v ≤ 9) : m_cmp .eq (F_hasBit a (itr (bF p) 1 9 0) (Int32.ofNat v)) 0 = !(p v) := by
  have e : F_hasBit a (itr (bF p) 1 9 0) (Int32.ofNat v) = F_isIn a (itr (bF p) 1 9 0) (Int32.ofNat v) := rfl
  rw [e, eq_ne, isIn_bit, b9_t p v h1 h2]
theorem ii_t (p : Nat → Bool) (a : SG) (v : Nat) (h1 : 1 ≤ v) (h2 : v ≤ 9) : m_cmp .eq (F_isIn a (itr (bF p) 1 9 0) (Int32.ofNat v)) 0 = !(p v) := by
  rw [eq_ne, isIn_bit, b9_t p v h1 h2]
/-- how many of them are at a place -/
def cnS (p : Nat → Bool) (X : Nat → Nat) (q : Nat) (b y : Nat) : Nat := bif p b then (if X b = q then y + 1 else y) else y
def cntE (p : Nat → Bool) (X : Nat → Nat) (n q : Nat) : Nat := itr (cnS p X q) 1 n 0
theorem cntE_s (p : Nat → Bool) (X : Nat → Nat) (n q : Nat) : cntE p X (n + 1) q = cnS p X q (1 + n) (cntE p X n q) := itr_succ _ _ _ _
theorem cntE_b (p : Nat → Bool) (X : Nat → Nat) (q : Nat) : ∀ n, cntE p X n q ≤ n
  | 0 => Nat.le_refl 0
  | n + 1 => by
    have := cntE_b p X q n
    rw [cntE_s]
    unfold cnS
    cases p (1 + n) with
    | false => rw [kF]; omega
    | true =>
      rw [kT]
      by_cases w : X (1 + n) = q
      · rw [if_pos w]; omega
      · rw [if_neg w]; omega
def MXn (p : Nat → Bool) (X : Nat → Nat) (n m : Nat) : Prop := m ≤ n ∧ (∀ a, 1 ≤ a → a ≤ n → p a = true → cntE p X n (X a) ≤ m) ∧ (m = 0 ∨ ∃ a, 1 ≤ a ∧ a ≤ n ∧ p a = true ∧ cntE p X n (X a) = m)
theorem MXn.uniq {p : Nat → Bool} {X : Nat → Nat} {n m k : Nat} (h : MXn p X n m) (g : MXn p X n k) : m = k := by
  obtain ⟨-, h1, h2⟩ := h
  obtain ⟨-, g1, g2⟩ := g
  rcases Nat.lt_trichotomy m k with w | w | w
  · rcases g2 with e | ⟨a, a1, a2, a3, a4⟩
    · omega
    · have := h1 a a1 a2 a3
      omega
  · exact w
  · rcases h2 with e | ⟨a, a1, a2, a3, a4⟩
    · omega
    · have := g1 a a1 a2 a3
      omega
/-- the running greatest -/
theorem MXn.step {p : Nat → Bool} {X : Nat → Nat} {n m : Nat} (h : MXn p X n m) : (p (1 + n) = false → MXn p X (n + 1) m) ∧ (p (1 + n) = true → MXn p X (n + 1) (if m < cntE p X (n + 1) (X (1 + n)) then cntE p X (n + 1) (X (1 + n)) else m)) := by
  obtain ⟨h0, h1, h2⟩ := h
  refine ⟨fun q => ?_, fun q => ?_⟩
  · have e : ∀ r, cntE p X (n + 1) r = cntE p X n r := fun r => by
      rw [cntE_s]
      unfold cnS
      rw [q, kF]
    refine ⟨by omega, fun a a1 a2 a3 => ?_, ?_⟩
    · rw [e]
      by_cases w : a = 1 + n
      · rw [w, q] at a3; cases a3
      · exact h1 a a1 (by omega) a3
    · rcases h2 with e0 | ⟨a, a1, a2, a3, a4⟩
      · exact Or.inl e0
      · exact Or.inr ⟨a, a1, by omega, a3, by rw [e]; exact a4⟩
  · have e : ∀ r, cntE p X (n + 1) r = if X (1 + n) = r then cntE p X n r + 1 else cntE p X n r := fun r => by
      rw [cntE_s]
      unfold cnS
      rw [q, kT]
    have b := cntE_b p X (X (1 + n)) (n + 1)
    have up : ∀ a, 1 ≤ a → a ≤ n + 1 → p a = true → cntE p X (n + 1) (X a) ≤ max m (cntE p X (n + 1) (X (1 + n))) := fun a a1 a2 a3 => by
      by_cases w : a = 1 + n
      · rw [w]; omega
      · have k := h1 a a1 (by omega) a3
        by_cases x : X (1 + n) = X a
        · rw [x]; omega
        · rw [e (X a), if_neg x]; omega
    have at1 : cntE p X (n + 1) (X (1 + n)) = cntE p X n (X (1 + n)) + 1 := by rw [e, if_pos rfl]
    by_cases w : m < cntE p X (n + 1) (X (1 + n))
    · rw [if_pos w]
      refine ⟨b, fun a a1 a2 a3 => ?_, Or.inr ⟨1 + n, by omega, by omega, q, rfl⟩⟩
      have := up a a1 a2 a3
      omega
    · rw [if_neg w]
      refine ⟨by omega, fun a a1 a2 a3 => ?_, ?_⟩
      · have := up a a1 a2 a3
        omega
      · rcases h2 with e0 | ⟨a, a1, a2, a3, a4⟩
        · omega
        · refine Or.inr ⟨a, a1, by omega, a3, ?_⟩
          by_cases x : X (1 + n) = X a
          · rw [x] at w at1
            omega
          · rw [e (X a), if_neg x]; exact a4
theorem lt_ofn {a b : Nat} (ha : a < 1000) (hb : b < 1000) : Int32.ofNat a < Int32.ofNat b ↔ a < b := by
  rw [Int32.lt_iff_toInt_lt, ofn_int (by omega), ofn_int (by omega)]
  omega
/-- the class: a tally -/
theorem moC {z : SG} {p : Nat → Bool} {x : NI} {t : Nat} (ht : t < 24) (hx : ∀ v, 1 ≤ v → v ≤ 9 → p v = true → z (98 + v) t = x v) (x20 : ∀ v, 0 ≤ (x v).toInt ∧ (x v).toInt ≤ 20) : ∃ m, (F_mostAtOnePlace z (itr (bF p) 1 9 0) (Int32.ofNat t)).1 = Int32.ofNat m ∧ MXn p (fun v => (x v).toNatClampNeg) 9 m ∧ ∀ b j, b ≠ 108 → (F_mostAtOnePlace z (itr (bF p) 1 9 0) (Int32.ofNat t)).2 b j = z b j := by
  have ct : (Int32.ofNat t).toNatClampNeg = t := ofn_c (by omega)
  have hX : ∀ v, (x v).toNatClampNeg < 21 := fun v => by
    have := x20 v
    show (x v).toInt.toNat < 21
    omega
  have key : ∀ n, n ≤ 9 → (∀ b j, b ≠ 108 → (itr (B_mostAtOnePlace_8 (itr (bF p) 1 9 0) (Int32.ofNat t)) 1 n (fil z 108 21 0, 0)).1 b j = z b j) ∧ (∀ q, q < 21 → (itr (B_mostAtOnePlace_8 (itr (bF p) 1 9 0) (Int32.ofNat t)) 1 n (fil z 108 21 0, 0)).1 108 q = Int32.ofNat (cntE p (fun v => (x v).toNatClampNeg) n q)) ∧ ∃ m, (itr (B_mostAtOnePlace_8 (itr (bF p) 1 9 0) (Int32.ofNat t)) 1 n (fil z 108 21 0, 0)).2 = Int32.ofNat m ∧ MXn p (fun v => (x v).toNatClampNeg) n m := by
    generalize hbits : itr (bF p) 1 9 0 = bits
    intro n
    induction n with
    | zero => exact fun _ => ⟨fun b j hb => fil_na hb, fun q hq => fil_eq hq, 0, rfl, Nat.le_refl 0, fun a a1 a2 => absurd a1 (by omega), Or.inl rfl⟩
    | succ n ih =>
      intro hn
      obtain ⟨h1, h2, m, h3, h4⟩ := ih (by omega)
      rw [itr_succ]
      generalize itr (B_mostAtOnePlace_8 bits (Int32.ofNat t)) 1 n (fil z 108 21 0, 0) = a at *
      have hb : m_cmp .eq (F_hasBit a.1 bits (Int32.ofNat (1 + n))) 0 = !(p (1 + n)) := by rw [← hbits]; exact hb_t p a.1 (1 + n) (by omega) (by omega)
      obtain ⟨st1, st2⟩ := h4.step
      cases q : p (1 + n) with
      | false =>
        rw [q] at hb
        have eB : B_mostAtOnePlace_8 bits (Int32.ofNat t) (1 + n) a = (a.1, a.2) := by
          unfold B_mostAtOnePlace_8
          dsimp only
          rw [hb, lF, kT]
        rw [eB]
        refine ⟨h1, fun r hr => ?_, m, h3, st1 q⟩
        dsimp only
        rw [h2 r hr, cntE_s]
        unfold cnS
        rw [q, kF]
      | true =>
        rw [q] at hb
        have ep : a.1 (98 + (1 + n)) t = x (1 + n) := (h1 _ _ (by omega)).trans (hx _ (by omega) (by omega) q)
        have eB : B_mostAtOnePlace_8 bits (Int32.ofNat t) (1 + n) a = (uset a.1 108 (x (1 + n)).toNatClampNeg (a.1 108 (x (1 + n)).toNatClampNeg + 1), if a.2 < (uset a.1 108 (x (1 + n)).toNatClampNeg (a.1 108 (x (1 + n)).toNatClampNeg + 1)) 108 (x (1 + n)).toNatClampNeg then (uset a.1 108 (x (1 + n)).toNatClampNeg (a.1 108 (x (1 + n)).toNatClampNeg + 1)) 108 (x (1 + n)).toNatClampNeg else a.2) := by
          unfold B_mostAtOnePlace_8
          dsimp only
          rw [hb, lT, kF, ct, ep]
        rw [eB, uset_eq, h2 _ (hX _), h3, ofn_s]
        have e1 : cntE p (fun v => (x v).toNatClampNeg) (n + 1) (x (1 + n)).toNatClampNeg = cntE p (fun v => (x v).toNatClampNeg) n (x (1 + n)).toNatClampNeg + 1 := by
          rw [cntE_s]
          unfold cnS
          rw [q, kT, if_pos rfl]
        rw [← e1]
        have bd := cntE_b p (fun v => (x v).toNatClampNeg) (x (1 + n)).toNatClampNeg (n + 1)
        have hm := h4.1
        refine ⟨fun b j hb => (uset_na hb).trans (h1 b j hb), fun r hr => ?_, _, ?_, st2 q⟩
        · dsimp only
          by_cases w : r = (x (1 + n)).toNatClampNeg
          · rw [w]; exact uset_eq _ _ _ _
          · rw [uset_nj w, h2 r hr, cntE_s]
            unfold cnS
            rw [q, kT, if_neg (fun y => w y.symm)]
        · dsimp only
          by_cases w : m < cntE p (fun v => (x v).toNatClampNeg) (n + 1) (x (1 + n)).toNatClampNeg
          · rw [if_pos w, if_pos ((lt_ofn (by omega) (by omega)).mpr w)]
          · rw [if_neg w, if_neg (fun y => w ((lt_ofn (by omega) (by omega)).mp y))]
  obtain ⟨h1, -, m, h3, h4⟩ := key 9 (Nat.le_refl _)
  have eF : F_mostAtOnePlace z (itr (bF p) 1 9 0) (Int32.ofNat t) = ((itr (B_mostAtOnePlace_8 (itr (bF p) 1 9 0) (Int32.ofNat t)) 1 9 (fil z 108 21 0, 0)).2, (itr (B_mostAtOnePlace_8 (itr (bF p) 1 9 0) (Int32.ofNat t)) 1 9 (fil z 108 21 0, 0)).1) := by
    have e : F_mostAtOnePlace z (itr (bF p) 1 9 0) (Int32.ofNat t) = ((itr (B_mostAtOnePlace_8 (itr (bF p) 1 9 0) (Int32.ofNat t)) 1 (10 - 1) (fil z 108 21 0, 0)).2, (itr (B_mostAtOnePlace_8 (itr (bF p) 1 9 0) (Int32.ofNat t)) 1 (10 - 1) (fil z 108 21 0, 0)).1) := rfl
    rw [e, itr9]
  rw [eF]
  exact ⟨m, h3, h4, h1⟩
theorem x_eq {a b : Int32} (ha : 0 ≤ a.toInt ∧ a.toInt ≤ 20) (hb : 0 ≤ b.toInt ∧ b.toInt ≤ 20) : m_cmp .ne a b = !(decide (b.toNatClampNeg = a.toNatClampNeg)) := by
  by_cases w : a = b
  · rw [w]
    rw [decide_eq_true rfl, lT]
    cases q : m_cmp .ne b b with
    | false => rfl
    | true => exact absurd rfl (m_ne_iff.mp q)
  · rw [m_ne_iff.mpr w]
    have e : ¬ b.toNatClampNeg = a.toNatClampNeg := fun e => w (by
      apply Int32.toInt_inj.mp
      have e : b.toInt.toNat = a.toInt.toNat := e
      omega)
    rw [decide_eq_false e, lF]
/-- the model: pairs -/
theorem moM {z : SG} {p : Nat → Bool} {x : NI} {t : Nat} (hx : ∀ v, 1 ≤ v → v ≤ 9 → z 147 (24 * v + t) = x v) (x20 : ∀ v, 0 ≤ (x v).toInt ∧ (x v).toInt ≤ 20) : ∃ m, itr (B_askOf_17 (itr (bF p) 1 9 0, z) t) 1 9 (0 : Int32) = Int32.ofNat m ∧ MXn p (fun v => (x v).toNatClampNeg) 9 m := by
  have inner : ∀ a, 1 ≤ a → a ≤ 9 → ∀ n, n ≤ 9 → itr (B_askOf_24 (itr (bF p) 1 9 0, z) t a) 1 n (0 : Int32) = Int32.ofNat (bif p a then cntE p (fun v => (x v).toNatClampNeg) n (x a).toNatClampNeg else 0) := by
    intro a a1 a2 n
    induction n with
    | zero =>
      intro _
      rw [itr_z]
      cases p a <;> rfl
    | succ n ih =>
      intro hn
      rw [itr_succ, ih (by omega)]
      have i1 := ii_t p z a a1 a2
      have i2 := ii_t p z (1 + n) (by omega) (by omega)
      unfold B_askOf_24
      dsimp only
      rw [i1, i2, hx a a1 a2, hx (1 + n) (by omega) (by omega), x_eq (x20 a) (x20 (1 + n)), cntE_s]
      unfold cnS
      cases p a with
      | false => rw [lF, kT, kF, kF]; rfl
      | true =>
        rw [lT, kF, kT, kT]
        cases p (1 + n) with
        | false => rw [lF, kT, kF]; exact Int32.add_zero _
        | true =>
          rw [lT, kF, kT]
          by_cases w : (x (1 + n)).toNatClampNeg = (x a).toNatClampNeg
          · rw [decide_eq_true w, lT, kF, if_pos w]; exact ofn_s _
          · rw [decide_eq_false w, lF, kT, if_neg w]; exact Int32.add_zero _
  have outer : ∀ n, n ≤ 9 → ∃ m, itr (B_askOf_17 (itr (bF p) 1 9 0, z) t) 1 n (0 : Int32) = Int32.ofNat m ∧ m ≤ 9 ∧ (∀ a, 1 ≤ a → a ≤ n → p a = true → cntE p (fun v => (x v).toNatClampNeg) 9 (x a).toNatClampNeg ≤ m) ∧ (m = 0 ∨ ∃ a, 1 ≤ a ∧ a ≤ n ∧ p a = true ∧ cntE p (fun v => (x v).toNatClampNeg) 9 (x a).toNatClampNeg = m) := by
    intro n
    induction n with
    | zero => exact fun _ => ⟨0, rfl, by omega, fun a a1 a2 => absurd a1 (by omega), Or.inl rfl⟩
    | succ n ih =>
      intro hn
      obtain ⟨m, e, m9, u, w⟩ := ih (by omega)
      rw [itr_succ, e]
      have bd := cntE_b p (fun v => (x v).toNatClampNeg) (x (1 + n)).toNatClampNeg 9
      have eB : B_askOf_17 (itr (bF p) 1 9 0, z) t (1 + n) (Int32.ofNat m) = bif m_cmp .le (itr (B_askOf_24 (itr (bF p) 1 9 0, z) t (1 + n)) 1 9 (0 : Int32)) (Int32.ofNat m) then Int32.ofNat m else itr (B_askOf_24 (itr (bF p) 1 9 0, z) t (1 + n)) 1 9 (0 : Int32) := by
        have e : B_askOf_17 (itr (bF p) 1 9 0, z) t (1 + n) (Int32.ofNat m) = bif m_cmp .le (itr (B_askOf_24 (itr (bF p) 1 9 0, z) t (1 + n)) 1 (10 - 1) (0 : Int32)) (Int32.ofNat m) then Int32.ofNat m else itr (B_askOf_24 (itr (bF p) 1 9 0, z) t (1 + n)) 1 (10 - 1) (0 : Int32) := rfl
        rw [e, itr9]
      rw [eB, inner (1 + n) (by omega) (by omega) 9 (Nat.le_refl _)]
      have le : ∀ k, k < 1000 → m_cmp .le (Int32.ofNat k) (Int32.ofNat m) = decide (k ≤ m) := fun k hk => by
        by_cases y : k ≤ m
        · rw [decide_eq_true y]
          exact mle_iff.mpr (by rw [ofn_int (by omega), ofn_int (by omega)]; omega)
        · rw [decide_eq_false y]
          cases r : m_cmp .le (Int32.ofNat k) (Int32.ofNat m) with
          | false => rfl
          | true =>
            have := mle_iff.mp r
            rw [ofn_int (by omega), ofn_int (by omega)] at this
            omega
      cases q : p (1 + n) with
      | false =>
        rw [kF, le 0 (by omega), decide_eq_true (Nat.zero_le m), kT]
        refine ⟨m, rfl, m9, fun a a1 a2 a3 => ?_, ?_⟩
        · by_cases y : a = 1 + n
          · rw [y, q] at a3; cases a3
          · exact u a a1 (by omega) a3
        · rcases w with w | ⟨a, a1, a2, a3, a4⟩
          · exact Or.inl w
          · exact Or.inr ⟨a, a1, by omega, a3, a4⟩
      | true =>
        rw [kT, le _ (by omega)]
        by_cases y : cntE p (fun v => (x v).toNatClampNeg) 9 (x (1 + n)).toNatClampNeg ≤ m
        · rw [decide_eq_true y, kT]
          refine ⟨m, rfl, m9, fun a a1 a2 a3 => ?_, ?_⟩
          · by_cases v : a = 1 + n
            · rw [v]; exact y
            · exact u a a1 (by omega) a3
          · rcases w with w | ⟨a, a1, a2, a3, a4⟩
            · exact Or.inl w
            · exact Or.inr ⟨a, a1, by omega, a3, a4⟩
        · rw [decide_eq_false y, kF]
          refine ⟨_, rfl, bd, fun a a1 a2 a3 => ?_, Or.inr ⟨1 + n, by omega, by omega, q, rfl⟩⟩
          by_cases v : a = 1 + n
          · rw [v]; exact Nat.le_refl _
          · have := u a a1 (by omega) a3
            omega
  obtain ⟨m, e, m9, u, w⟩ := outer 9 (Nat.le_refl _)
  exact ⟨m, e, m9, u, w⟩
/-! the least of them, the first -/
def lsC (V : Nat → Int32) (v : Nat) (x : Int32 × Int32) : Int32 × Int32 := bif m_cmp .ge (V v) x.2 then x else (Int32.ofNat v, V v)
def lsM (V : Nat → Int32) (v : Nat) (x : Int32 × Int32) : Int32 × Int32 := bif m_cmp .eq (bif m_cmp .eq x.1 (-1) then (1 : Int32) else (bif m_cmp .ge (V v) x.2 then (0 : Int32) else (1 : Int32))) 0 then x else (Int32.ofNat v, V v)
theorem lsE (V : Nat → Int32) (x0 : Int32 × Int32) (y0 : Int32) (h0 : m_cmp .ge (V 0) x0.2 = false) : ∀ i, i < 900 → itr (lsC V) 0 (i + 1) x0 = itr (lsM V) 0 (i + 1) (-1, y0) ∧ ∃ k, k < 900 ∧ (itr (lsM V) 0 (i + 1) (-1, y0)).1 = Int32.ofNat k := by
  intro i
  induction i with
  | zero =>
    intro _
    rw [itr_0, itr_0, itr_z, itr_z]
    have e : lsC V 0 x0 = (Int32.ofNat 0, V 0) := by
      unfold lsC
      rw [h0, kF]
    have e2 : lsM V 0 (-1, y0) = (Int32.ofNat 0, V 0) := by
      unfold lsM
      show (bif m_cmp .eq (bif m_cmp .eq (-1) (-1) then (1 : Int32) else _) 0 then _ else _) = _
      rw [show m_cmp .eq (-1 : Int32) (-1) = true from rfl, kT, show m_cmp .eq (1 : Int32) 0 = false from rfl, kF]
    rw [e, e2]
    exact ⟨rfl, 0, by decide, rfl⟩
  | succ i ih =>
    intro hi
    obtain ⟨h1, k, hk, h2⟩ := ih (by omega)
    rw [itr_0, itr_0 (lsM V), h1]
    generalize itr (lsM V) 0 (i + 1) (-1, y0) = x at *
    have c : m_cmp .eq x.1 (-1) = false := by
      cases q : m_cmp .eq x.1 (-1) with
      | false => rfl
      | true =>
        have q := m_eq_iff.mp q
        rw [h2] at q
        exact absurd q (ofn_ne (by omega))
    unfold lsC lsM
    rw [c, kF]
    generalize V (i + 1) = y
    cases m_cmp .ge y x.2 with
    | true =>
      rw [kT, kT, show m_cmp .eq (0 : Int32) 0 = true from rfl, kT]
      exact ⟨rfl, k, hk, h2⟩
    | false =>
      rw [kF, kF, show m_cmp .eq (1 : Int32) 0 = false from rfl, kF]
      exact ⟨rfl, i + 1, hi, rfl⟩
theorem q_ask {s : SG} (h : KF s) (k : Int32) : QK (F_cask s k) (fun y => F_ask y k) := by
  refine ⟨(kf_ask h k).ag ((fr_ask _ k).ag DF rfl), ?_⟩
  have eC : F_cask s k = bif m_cmp .ne (F_cisRower s k) 0 then ((itr (B_cask_16 (F_possiblePowers s k)) 0 24 ((F_possiblePowers s k).2, 0, 10)).2.1, (itr (B_cask_16 (F_possiblePowers s k)) 0 24 ((F_possiblePowers s k).2, 0, 10)).1) else ((-2), s) := by
    dsimp only [F_cask]
  have eM : ∀ c : SG, F_ask c k = bif m_cmp .eq (F_isRower c k).1 0 then ((-2 : Int32), (F_isRower c k).2) else (F_askOf (F_isRower c k).2 k) := fun c => by
    dsimp only [F_ask]
  have eA : ∀ c : SG, F_askOf c k = ((itr (B_askOf_10 (F_powersBy c k)) 0 24 ((-1), 0)).1, (F_powersBy c k).2) := fun c => by
    dsimp only [F_askOf]
  rw [cisR_n] at eC
  cases q : bl k (s 10 0) with
  | false =>
    rw [q, kF] at eC
    rw [eC]
    dsimp only
    rw [eM, (isRw h.1.1.1 h.1.2.1 k).1, q, lF, kT]
  | true =>
    rw [q, kT] at eC
    obtain ⟨⟨x, o⟩, e, rows⟩ := psC h.1 k 9 (Nat.le_refl _)
    have eCP := ppE s k
    rw [eCP] at eC
    generalize itr (B_possiblePowers_9 k) 1 9 (F_take s, 0) = a at *
    obtain ⟨z, bits⟩ := a
    dsimp only at eC o e rows
    rw [e] at eC
    have fz := o.2.2.2.2.2
    have x20 : ∀ t v, 0 ≤ (spl' (trip (pJ s k.toNatClampNeg v) (t + 1))).toInt ∧ (spl' (trip (pJ s k.toNatClampNeg v) (t + 1))).toInt ≤ 20 := fun t v => plB _ _
    have ex : ∀ t, ∃ m, MXn (fun v => snB s (pJ s k.toNatClampNeg v)) (fun v => (spl' (trip (pJ s k.toNatClampNeg v) (t + 1))).toNatClampNeg) 9 m := fun t => by
      have key : ∀ n, ∃ m, MXn (fun v => snB s (pJ s k.toNatClampNeg v)) (fun v => (spl' (trip (pJ s k.toNatClampNeg v) (t + 1))).toNatClampNeg) n m := by
        intro n
        induction n with
        | zero => exact ⟨0, Nat.le_refl 0, fun a a1 a2 => absurd a1 (by omega), Or.inl rfl⟩
        | succ n ih =>
          obtain ⟨m, hm⟩ := ih
          obtain ⟨s1, s2⟩ := hm.step
          cases w : snB s (pJ s k.toNatClampNeg (1 + n)) with
          | false => exact ⟨m, s1 w⟩
          | true => exact ⟨_, s2 w⟩
      exact key 9
    obtain ⟨V, hV⟩ : ∃ V : Nat → Nat, ∀ t, MXn (fun v => snB s (pJ s k.toNatClampNeg v)) (fun v => (spl' (trip (pJ s k.toNatClampNeg v) (t + 1))).toNatClampNeg) 9 (V t) := ⟨fun t => (ex t).choose, fun t => (ex t).choose_spec⟩
    have A : ∀ i, i ≤ 24 → (∀ b j, b ≠ 108 → (itr (B_cask_16 (itr (bF fun v => snB s (pJ s k.toNatClampNeg v)) 1 9 0, z)) 0 i (z, 0, 10)).1 b j = z b j) ∧ (itr (B_cask_16 (itr (bF fun v => snB s (pJ s k.toNatClampNeg v)) 1 9 0, z)) 0 i (z, 0, 10)).2 = itr (lsC (fun t => Int32.ofNat (V t))) 0 i (0, 10) := by
      intro i
      induction i with
      | zero => exact fun _ => ⟨fun b j _ => rfl, rfl⟩
      | succ i ih =>
        intro hi
        obtain ⟨g1, g2⟩ := ih (by omega)
        rw [itr_0, itr_0, ← g2]
        generalize itr (B_cask_16 (itr (bF fun v => snB s (pJ s k.toNatClampNeg v)) 1 9 0, z)) 0 i (z, 0, 10) = a at *
        obtain ⟨m, m1, m2, m3⟩ := moC (z := a.1) (p := fun v => snB s (pJ s k.toNatClampNeg v)) (x := fun v => spl' (trip (pJ s k.toNatClampNeg v) (i + 1))) (t := i) (by omega) (fun v v1 v2 hv => (g1 _ _ (by omega)).trans (rows v v1 v2 hv i (by omega))) (x20 i)
        have em : m = V i := m2.uniq (hV i)
        have eB : B_cask_16 (itr (bF fun v => snB s (pJ s k.toNatClampNeg v)) 1 9 0, z) i a = ((F_mostAtOnePlace a.1 (itr (bF fun v => snB s (pJ s k.toNatClampNeg v)) 1 9 0) (Int32.ofNat i)).2, (bif m_cmp .ge (F_mostAtOnePlace a.1 (itr (bF fun v => snB s (pJ s k.toNatClampNeg v)) 1 9 0) (Int32.ofNat i)).1 a.2.2 then (a.2.1, a.2.2) else (Int32.ofNat i, (F_mostAtOnePlace a.1 (itr (bF fun v => snB s (pJ s k.toNatClampNeg v)) 1 9 0) (Int32.ofNat i)).1)).1, (bif m_cmp .ge (F_mostAtOnePlace a.1 (itr (bF fun v => snB s (pJ s k.toNatClampNeg v)) 1 9 0) (Int32.ofNat i)).1 a.2.2 then (a.2.1, a.2.2) else (Int32.ofNat i, (F_mostAtOnePlace a.1 (itr (bF fun v => snB s (pJ s k.toNatClampNeg v)) 1 9 0) (Int32.ofNat i)).1)).2) := by
          dsimp only [B_cask_16]
        rw [eB, m1, em]
        generalize F_mostAtOnePlace a.1 (itr (bF fun v => snB s (pJ s k.toNatClampNeg v)) 1 9 0) (Int32.ofNat i) = y at *
        refine ⟨fun b j hb => (m3 b j hb).trans (g1 b j hb), ?_⟩
        unfold lsC; (try dsimp only)
    obtain ⟨g1, g2⟩ := A 24 (Nat.le_refl _)
    rw [eC]
    generalize itr (B_cask_16 (itr (bF fun v => snB s (pJ s k.toNatClampNeg v)) 1 9 0, z)) 0 24 (z, 0, 10) = a at *
    obtain ⟨c, w⟩ := a
    dsimp only at g1 g2 ⊢
    have fc : Fr Wo s c := fun b j hb => by
      have n108 : b ≠ 108 := fun e => by rw [e] at hb; cases hb
      exact (g1 b j n108).trans (fz b j hb)
    obtain ⟨g, -⟩ := KG.sd h.1 fc
    obtain ⟨i1, i2⟩ := isRw g.1.1 g.2.1 k
    rw [eM, i1, fc 10 0 rfl, q, lT, kF, i2, eA]
    obtain ⟨d1, d2, -, d4⟩ := rdS h.1 fc k.toNatClampNeg
    obtain ⟨-, p2, p3⟩ := psM d1 k 9 (Nat.le_refl _)
    have eP := pwE (F_reads c) k
    rw [eP, p2, d2]
    rw [d4] at p3
    have u147 : ∀ j, uset (itr (B_powersBy_11 k) 1 9 (F_asTold (F_reads c), 0)).1 127 k.toNatClampNeg (F_asTold (F_reads c) 127 k.toNatClampNeg) 147 j = (itr (B_powersBy_11 k) 1 9 (F_asTold (F_reads c), 0)).1 147 j := fun j => uset_na (by decide)
    generalize uset (itr (B_powersBy_11 k) 1 9 (F_asTold (F_reads c), 0)).1 127 k.toNatClampNeg (F_asTold (F_reads c) 127 k.toNatClampNeg) = y at *
    have B : ∀ i, i ≤ 24 → itr (B_askOf_10 (itr (bF fun v => snB s (pJ s k.toNatClampNeg v)) 1 9 0, y)) 0 i ((-1), 0) = itr (lsM (fun t => Int32.ofNat (V t))) 0 i (-1, 0) := by
      intro i
      induction i with
      | zero =>
        intro _
        rw [itr_z, itr_z]
      | succ i ih =>
        intro hi
        rw [itr_0, itr_0, ih (by omega)]
        generalize itr (lsM (fun t => Int32.ofNat (V t))) 0 i (-1, 0) = b
        obtain ⟨m, m1, m2⟩ := moM (z := y) (p := fun v => snB s (pJ s k.toNatClampNeg v)) (x := fun v => spl' (trip (pJ s k.toNatClampNeg v) (i + 1))) (t := i) (fun v v1 v2 => (u147 _).trans (p3 v v1 v2 i (by omega))) (x20 i)
        have em : m = V i := m2.uniq (hV i)
        have eB : B_askOf_10 (itr (bF fun v => snB s (pJ s k.toNatClampNeg v)) 1 9 0, y) i b = (bif m_cmp .eq (bif m_cmp .eq b.1 (-1) then (1 : Int32) else (bif m_cmp .ge (itr (B_askOf_17 (itr (bF fun v => snB s (pJ s k.toNatClampNeg v)) 1 9 0, y) i) 1 9 (0 : Int32)) b.2 then (0 : Int32) else (1 : Int32))) 0 then b.1 else Int32.ofNat i, bif m_cmp .eq (bif m_cmp .eq b.1 (-1) then (1 : Int32) else (bif m_cmp .ge (itr (B_askOf_17 (itr (bF fun v => snB s (pJ s k.toNatClampNeg v)) 1 9 0, y) i) 1 9 (0 : Int32)) b.2 then (0 : Int32) else (1 : Int32))) 0 then b.2 else itr (B_askOf_17 (itr (bF fun v => snB s (pJ s k.toNatClampNeg v)) 1 9 0, y) i) 1 9 (0 : Int32)) := by
          have e : B_askOf_10 (itr (bF fun v => snB s (pJ s k.toNatClampNeg v)) 1 9 0, y) i b = (bif m_cmp .eq (bif m_cmp .eq b.1 (-1) then (1 : Int32) else (bif m_cmp .ge (itr (B_askOf_17 (itr (bF fun v => snB s (pJ s k.toNatClampNeg v)) 1 9 0, y) i) 1 (10 - 1) (0 : Int32)) b.2 then (0 : Int32) else (1 : Int32))) 0 then b.1 else Int32.ofNat i, bif m_cmp .eq (bif m_cmp .eq b.1 (-1) then (1 : Int32) else (bif m_cmp .ge (itr (B_askOf_17 (itr (bF fun v => snB s (pJ s k.toNatClampNeg v)) 1 9 0, y) i) 1 (10 - 1) (0 : Int32)) b.2 then (0 : Int32) else (1 : Int32))) 0 then b.2 else itr (B_askOf_17 (itr (bF fun v => snB s (pJ s k.toNatClampNeg v)) 1 9 0, y) i) 1 (10 - 1) (0 : Int32)) := rfl
          rw [e, itr9]
        rw [eB, m1, em]
        unfold lsM; (try dsimp only)
        generalize Int32.ofNat (V i) = u
        cases m_cmp .eq (bif m_cmp .eq b.1 (-1) then (1 : Int32) else (bif m_cmp .ge u b.2 then (0 : Int32) else (1 : Int32))) 0 <;> rfl
    rw [B 24 (Nat.le_refl _)]
    have L := (lsE (fun t => Int32.ofNat (V t)) (0, 10) 0 (by
      have v9 := (hV 0).1
      cases r : m_cmp .ge (Int32.ofNat (V 0)) 10 with
      | false => rfl
      | true =>
        have r := m_ge_iff.mp r
        rw [ofn_int (by omega)] at r
        have e10 : (10 : Int32).toInt = 10 := by decide
        omega) 23 (by decide)).1
    rw [mkF, g2, ← L]
end
