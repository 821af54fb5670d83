/-! digest (printed by wip/u/mk_inv.py) -/
theorem KL_addMinutes_hd : ∀ n, (∀ (v1 : Int64) (u2 : Option Value) (v3 : Int64) (u4 : Option Value) (v5 : Int32) (u6 : Option Value) (s : SG), KF s → UPB n m_X6_addMinutes 4 [some (.ref 0), some (.long v1), u2, some (.long v3), u4, some (.int v5), u6] [] s KL) ∧ (∀ (v1 : Int64) (u2 : Option Value) (v3 : Int64) (u4 : Option Value) (v5 : Int32) (v6 : Int32) (s : SG), KF s → UPB n m_X6_addMinutes 29 [some (.ref 0), some (.long v1), u2, some (.long v3), u4, some (.int v5), some (.int v6)] [] s KL) := by
  intro n
  induction n with
  | zero => exact ⟨fun _ _ _ _ _ _ _ _ => UPB.zero, fun _ _ _ _ _ _ _ _ => UPB.zero⟩
  | succ n ih =>
    obtain ⟨IH4, IH29⟩ := ih
    refine ⟨?_, ?_⟩
    · intro v1 u2 v3 u4 v5 u6 s h
      refine UPB.hd 1 (i1 := 6) (L1 := [some (.ref 0), some (.long v1), u2, some (.long v3), u4, some (.int v5), u6]) (st1 := [.int 24, .int v5]) (s1 := s) rfl ?_
      refine UPB.ic rfl ?_ ?_
      · skip
        refine UPB.stp 1 (i1 := 47) (L1 := [some (.ref 0), some (.long v1), u2, some (.long v3), u4, some (.int v5), u6]) (st1 := [.long v3]) (s1 := s) rfl ?_
        exact UPB.ret (r := some (.long v3)) rfl ⟨⟨_, rfl⟩, h⟩
      · skip
        refine UPB.stp 6 (i1 := 13) (L1 := [some (.ref 0), some (.long v1), u2, some (.long v3), u4, some (.int v5), u6]) (st1 := [.int 0, .int v5, .ref 0, .long (31 * v3)]) (s1 := s) rfl ?_
        refine UPB.cI (M1 := m_X6_call) (as := [.ref 0, .int v5, .int 0]) (rest := [.long (31 * v3)]) rfl rfl (KI_call h v5 0) (fun x1 s2 h3 => ?_)
        refine UPB.stp 9 (i1 := 23) (L1 := [some (.ref 0), some (.long v1), u2, some (.long ((31 * v3) + x1.toInt64)), u4, some (.int v5), u6]) (st1 := [.int 1, .int v5, .ref 0, .long (31 * ((31 * v3) + x1.toInt64))]) (s1 := s2) rfl ?_
        refine UPB.cI (M1 := m_X6_call) (as := [.ref 0, .int v5, .int 1]) (rest := [.long (31 * ((31 * v3) + x1.toInt64))]) rfl rfl (KI_call h3 v5 1) (fun x4 s5 h6 => ?_)
        refine UPB.stp 5 (i1 := 29) (L1 := [some (.ref 0), some (.long v1), u2, some (.long ((31 * ((31 * v3) + x1.toInt64)) + x4.toInt64)), u4, some (.int v5), some (.int 0)]) (st1 := []) (s1 := s5) rfl ?_
        exact IH29 v1 u2 ((31 * ((31 * v3) + x1.toInt64)) + x4.toInt64) u4 v5 0 s5 h6
    · intro v1 u2 v3 u4 v5 v6 s h
      refine UPB.hd 1 (i1 := 31) (L1 := [some (.ref 0), some (.long v1), u2, some (.long v3), u4, some (.int v5), some (.int v6)]) (st1 := [.int 5, .int v6]) (s1 := s) rfl ?_
      refine UPB.ic rfl ?_ ?_
      · skip
        refine UPB.stp 2 (i1 := 4) (L1 := [some (.ref 0), some (.long v1), u2, some (.long v3), u4, some (.int (v5 + 1)), some (.int v6)]) (st1 := []) (s1 := s) rfl ?_
        exact IH4 v1 u2 v3 u4 (v5 + 1) (some (.int v6)) s h
      · skip
        refine UPB.stp 6 (i1 := 38) (L1 := [some (.ref 0), some (.long v1), u2, some (.long v3), u4, some (.int v5), some (.int v6)]) (st1 := [.int v6, .int v5, .ref 0, .long (31 * v3)]) (s1 := s) rfl ?_
        refine UPB.cI (M1 := m_X6_at) (as := [.ref 0, .int v5, .int v6]) (rest := [.long (31 * v3)]) rfl rfl (KI_at h v5 v6) (fun x7 s8 h9 => ?_)
        refine UPB.stp 5 (i1 := 29) (L1 := [some (.ref 0), some (.long v1), u2, some (.long ((31 * v3) + x7.toInt64)), u4, some (.int v5), some (.int (v6 + 1))]) (st1 := []) (s1 := s8) rfl ?_
        exact IH29 v1 u2 ((31 * v3) + x7.toInt64) u4 v5 (v6 + 1) s8 h9
theorem KL_addMinutes {s : SG} (h : KF s) (a : Int64) : UP m_X6_addMinutes 0 (m_ent 7 [.ref 0, .long a]) [] s KL := by
  refine UP.of_b (fun n => ?_)
  obtain ⟨IH4, IH29⟩ := KL_addMinutes_hd n
  refine UPB.stp 4 (i1 := 4) (L1 := [some (.ref 0), some (.long a), none, some (.long a), none, some (.int 0), none]) (st1 := []) (s1 := s) rfl ?_
  exact IH4 a none a none 0 none s h
theorem KL_addRower {s : SG} (h : KF s) (a : Int64) (b : Int32) : UP m_X6_addRower 0 (m_ent 6 [.ref 0, .long a, .int b]) [] s KL := by
  refine UP.of_b (fun n => ?_)
  refine UPB.stp 8 (i1 := 8) (L1 := [some (.ref 0), some (.long a), none, some (.int b), some (.long a), none]) (st1 := [.int 0, .int b, .ref 0, .long (31 * a)]) (s1 := s) rfl ?_
  refine UPB.cI (M1 := m_X6_rower) (as := [.ref 0, .int b, .int 0]) (rest := [.long (31 * a)]) rfl rfl (KI_rower h b 0) (fun x1 s2 h3 => ?_)
  refine UPB.stp 9 (i1 := 18) (L1 := [some (.ref 0), some (.long a), none, some (.int b), some (.long ((31 * a) + x1.toInt64)), none]) (st1 := [.int 1, .int b, .ref 0, .long (31 * ((31 * a) + x1.toInt64))]) (s1 := s2) rfl ?_
  refine UPB.cI (M1 := m_X6_rower) (as := [.ref 0, .int b, .int 1]) (rest := [.long (31 * ((31 * a) + x1.toInt64))]) rfl rfl (KI_rower h3 b 1) (fun x4 s5 h6 => ?_)
  refine UPB.stp 9 (i1 := 28) (L1 := [some (.ref 0), some (.long a), none, some (.int b), some (.long ((31 * ((31 * a) + x1.toInt64)) + x4.toInt64)), none]) (st1 := [.int b, .int 0, .ref 0, .long (31 * ((31 * ((31 * a) + x1.toInt64)) + x4.toInt64))]) (s1 := s5) rfl ?_
  refine UPB.cI (M1 := m_X6_pulls) (as := [.ref 0, .int 0, .int b]) (rest := [.long (31 * ((31 * ((31 * a) + x1.toInt64)) + x4.toInt64))]) rfl rfl (KI_pulls h6 0 b) (fun x7 s8 h9 => ?_)
  refine UPB.stp 9 (i1 := 38) (L1 := [some (.ref 0), some (.long a), none, some (.int b), some (.long ((31 * ((31 * ((31 * a) + x1.toInt64)) + x4.toInt64)) + x7.toInt64)), none]) (st1 := [.int b, .int 7, .ref 0, .long (31 * ((31 * ((31 * ((31 * a) + x1.toInt64)) + x4.toInt64)) + x7.toInt64))]) (s1 := s8) rfl ?_
  refine UPB.cI (M1 := m_X6_pulls) (as := [.ref 0, .int 7, .int b]) (rest := [.long (31 * ((31 * ((31 * ((31 * a) + x1.toInt64)) + x4.toInt64)) + x7.toInt64))]) rfl rfl (KI_pulls h9 7 b) (fun x10 s11 h12 => ?_)
  refine UPB.stp 9 (i1 := 48) (L1 := [some (.ref 0), some (.long a), none, some (.int b), some (.long ((31 * ((31 * ((31 * ((31 * a) + x1.toInt64)) + x4.toInt64)) + x7.toInt64)) + x10.toInt64)), none]) (st1 := [.int b, .int 15, .ref 0, .long (31 * ((31 * ((31 * ((31 * ((31 * a) + x1.toInt64)) + x4.toInt64)) + x7.toInt64)) + x10.toInt64))]) (s1 := s11) rfl ?_
  refine UPB.cI (M1 := m_X6_pulls) (as := [.ref 0, .int 15, .int b]) (rest := [.long (31 * ((31 * ((31 * ((31 * ((31 * a) + x1.toInt64)) + x4.toInt64)) + x7.toInt64)) + x10.toInt64))]) rfl rfl (KI_pulls h12 15 b) (fun x13 s14 h15 => ?_)
  refine UPB.stp 9 (i1 := 58) (L1 := [some (.ref 0), some (.long a), none, some (.int b), some (.long ((31 * ((31 * ((31 * ((31 * ((31 * a) + x1.toInt64)) + x4.toInt64)) + x7.toInt64)) + x10.toInt64)) + x13.toInt64)), none]) (st1 := [.int 0, .int b, .ref 0, .long (31 * ((31 * ((31 * ((31 * ((31 * ((31 * a) + x1.toInt64)) + x4.toInt64)) + x7.toInt64)) + x10.toInt64)) + x13.toInt64))]) (s1 := s14) rfl ?_
  refine UPB.cI (M1 := m_X6_done) (as := [.ref 0, .int b, .int 0]) (rest := [.long (31 * ((31 * ((31 * ((31 * ((31 * ((31 * a) + x1.toInt64)) + x4.toInt64)) + x7.toInt64)) + x10.toInt64)) + x13.toInt64))]) rfl rfl (KI_done h15 b 0) (fun x16 s17 h18 => ?_)
  refine UPB.stp 9 (i1 := 68) (L1 := [some (.ref 0), some (.long a), none, some (.int b), some (.long ((31 * ((31 * ((31 * ((31 * ((31 * ((31 * a) + x1.toInt64)) + x4.toInt64)) + x7.toInt64)) + x10.toInt64)) + x13.toInt64)) + x16.toInt64)), none]) (st1 := [.int 1, .int b, .ref 0, .long (31 * ((31 * ((31 * ((31 * ((31 * ((31 * ((31 * a) + x1.toInt64)) + x4.toInt64)) + x7.toInt64)) + x10.toInt64)) + x13.toInt64)) + x16.toInt64))]) (s1 := s17) rfl ?_
  refine UPB.cI (M1 := m_X6_done) (as := [.ref 0, .int b, .int 1]) (rest := [.long (31 * ((31 * ((31 * ((31 * ((31 * ((31 * ((31 * a) + x1.toInt64)) + x4.toInt64)) + x7.toInt64)) + x10.toInt64)) + x13.toInt64)) + x16.toInt64))]) rfl rfl (KI_done h18 b 1) (fun x19 s20 h21 => ?_)
  refine UPB.stp 9 (i1 := 78) (L1 := [some (.ref 0), some (.long a), none, some (.int b), some (.long ((31 * ((31 * ((31 * ((31 * ((31 * ((31 * ((31 * a) + x1.toInt64)) + x4.toInt64)) + x7.toInt64)) + x10.toInt64)) + x13.toInt64)) + x16.toInt64)) + x19.toInt64)), none]) (st1 := [.int 0, .int b, .ref 0, .long (31 * ((31 * ((31 * ((31 * ((31 * ((31 * ((31 * ((31 * a) + x1.toInt64)) + x4.toInt64)) + x7.toInt64)) + x10.toInt64)) + x13.toInt64)) + x16.toInt64)) + x19.toInt64))]) (s1 := s20) rfl ?_
  refine UPB.cI (M1 := m_X6_was) (as := [.ref 0, .int b, .int 0]) (rest := [.long (31 * ((31 * ((31 * ((31 * ((31 * ((31 * ((31 * ((31 * a) + x1.toInt64)) + x4.toInt64)) + x7.toInt64)) + x10.toInt64)) + x13.toInt64)) + x16.toInt64)) + x19.toInt64))]) rfl rfl (KI_was h21 b 0) (fun x22 s23 h24 => ?_)
  refine UPB.stp 9 (i1 := 88) (L1 := [some (.ref 0), some (.long a), none, some (.int b), some (.long ((31 * ((31 * ((31 * ((31 * ((31 * ((31 * ((31 * ((31 * a) + x1.toInt64)) + x4.toInt64)) + x7.toInt64)) + x10.toInt64)) + x13.toInt64)) + x16.toInt64)) + x19.toInt64)) + x22.toInt64)), none]) (st1 := [.int 1, .int b, .ref 0, .long (31 * ((31 * ((31 * ((31 * ((31 * ((31 * ((31 * ((31 * ((31 * a) + x1.toInt64)) + x4.toInt64)) + x7.toInt64)) + x10.toInt64)) + x13.toInt64)) + x16.toInt64)) + x19.toInt64)) + x22.toInt64))]) (s1 := s23) rfl ?_
  refine UPB.cI (M1 := m_X6_was) (as := [.ref 0, .int b, .int 1]) (rest := [.long (31 * ((31 * ((31 * ((31 * ((31 * ((31 * ((31 * ((31 * ((31 * a) + x1.toInt64)) + x4.toInt64)) + x7.toInt64)) + x10.toInt64)) + x13.toInt64)) + x16.toInt64)) + x19.toInt64)) + x22.toInt64))]) rfl rfl (KI_was h24 b 1) (fun x25 s26 h27 => ?_)
  refine UPB.stp 8 (i1 := 97) (L1 := [some (.ref 0), some (.long a), none, some (.int b), some (.long ((31 * ((31 * ((31 * ((31 * ((31 * ((31 * ((31 * ((31 * ((31 * a) + x1.toInt64)) + x4.toInt64)) + x7.toInt64)) + x10.toInt64)) + x13.toInt64)) + x16.toInt64)) + x19.toInt64)) + x22.toInt64)) + x25.toInt64)), none]) (st1 := [.int b, .ref 0, .long (31 * ((31 * ((31 * ((31 * ((31 * ((31 * ((31 * ((31 * ((31 * ((31 * a) + x1.toInt64)) + x4.toInt64)) + x7.toInt64)) + x10.toInt64)) + x13.toInt64)) + x16.toInt64)) + x19.toInt64)) + x22.toInt64)) + x25.toInt64))]) (s1 := s26) rfl ?_
  refine UPB.cI (M1 := m_X6_ask) (as := [.ref 0, .int b]) (rest := [.long (31 * ((31 * ((31 * ((31 * ((31 * ((31 * ((31 * ((31 * ((31 * ((31 * a) + x1.toInt64)) + x4.toInt64)) + x7.toInt64)) + x10.toInt64)) + x13.toInt64)) + x16.toInt64)) + x19.toInt64)) + x22.toInt64)) + x25.toInt64))]) rfl rfl (KI_ask h27 b) (fun x28 s29 h30 => ?_)
  refine UPB.stp 2 (i1 := 100) (L1 := [some (.ref 0), some (.long a), none, some (.int b), some (.long ((31 * ((31 * ((31 * ((31 * ((31 * ((31 * ((31 * ((31 * ((31 * a) + x1.toInt64)) + x4.toInt64)) + x7.toInt64)) + x10.toInt64)) + x13.toInt64)) + x16.toInt64)) + x19.toInt64)) + x22.toInt64)) + x25.toInt64)), none]) (st1 := [.long ((31 * ((31 * ((31 * ((31 * ((31 * ((31 * ((31 * ((31 * ((31 * ((31 * a) + x1.toInt64)) + x4.toInt64)) + x7.toInt64)) + x10.toInt64)) + x13.toInt64)) + x16.toInt64)) + x19.toInt64)) + x22.toInt64)) + x25.toInt64)) + x28.toInt64)]) (s1 := s29) rfl ?_
  exact UPB.ret (r := some (.long ((31 * ((31 * ((31 * ((31 * ((31 * ((31 * ((31 * ((31 * ((31 * ((31 * a) + x1.toInt64)) + x4.toInt64)) + x7.toInt64)) + x10.toInt64)) + x13.toInt64)) + x16.toInt64)) + x19.toInt64)) + x22.toInt64)) + x25.toInt64)) + x28.toInt64))) rfl ⟨⟨_, rfl⟩, h30⟩
theorem KL_addPlans {s : SG} (h : KF s) (a : Int64) (b : Int32) : UP m_X6_addPlans 0 (m_ent 6 [.ref 0, .long a, .int b]) [] s KL := by
  refine UP.of_b (fun n => ?_)
  refine UPB.stp 8 (i1 := 8) (L1 := [some (.ref 0), some (.long a), none, some (.int b), some (.long a), none]) (st1 := [.int 0, .int b, .ref 0, .long (31 * a)]) (s1 := s) rfl ?_
  refine UPB.cI (M1 := m_X6_steer) (as := [.ref 0, .int b, .int 0]) (rest := [.long (31 * a)]) rfl rfl (KI_steer h b 0) (fun x1 s2 h3 => ?_)
  refine UPB.stp 9 (i1 := 18) (L1 := [some (.ref 0), some (.long a), none, some (.int b), some (.long ((31 * a) + x1.toInt64)), none]) (st1 := [.int 1, .int b, .ref 0, .long (31 * ((31 * a) + x1.toInt64))]) (s1 := s2) rfl ?_
  refine UPB.cI (M1 := m_X6_steer) (as := [.ref 0, .int b, .int 1]) (rest := [.long (31 * ((31 * a) + x1.toInt64))]) rfl rfl (KI_steer h3 b 1) (fun x4 s5 h6 => ?_)
  refine UPB.stp 9 (i1 := 28) (L1 := [some (.ref 0), some (.long a), none, some (.int b), some (.long ((31 * ((31 * a) + x1.toInt64)) + x4.toInt64)), none]) (st1 := [.int 0, .int b, .ref 0, .long (31 * ((31 * ((31 * a) + x1.toInt64)) + x4.toInt64))]) (s1 := s5) rfl ?_
  refine UPB.cI (M1 := m_X6_stroke) (as := [.ref 0, .int b, .int 0]) (rest := [.long (31 * ((31 * ((31 * a) + x1.toInt64)) + x4.toInt64))]) rfl rfl (KI_stroke h6 b 0) (fun x7 s8 h9 => ?_)
  refine UPB.stp 9 (i1 := 38) (L1 := [some (.ref 0), some (.long a), none, some (.int b), some (.long ((31 * ((31 * ((31 * a) + x1.toInt64)) + x4.toInt64)) + x7.toInt64)), none]) (st1 := [.int 1, .int b, .ref 0, .long (31 * ((31 * ((31 * ((31 * a) + x1.toInt64)) + x4.toInt64)) + x7.toInt64))]) (s1 := s8) rfl ?_
  refine UPB.cI (M1 := m_X6_stroke) (as := [.ref 0, .int b, .int 1]) (rest := [.long (31 * ((31 * ((31 * ((31 * a) + x1.toInt64)) + x4.toInt64)) + x7.toInt64))]) rfl rfl (KI_stroke h9 b 1) (fun x10 s11 h12 => ?_)
  refine UPB.stp 10 (i1 := 49) (L1 := [some (.ref 0), some (.long a), none, some (.int b), some (.long ((31 * ((31 * ((31 * ((31 * a) + x1.toInt64)) + x4.toInt64)) + x7.toInt64)) + x10.toInt64)), none]) (st1 := [.int 0, .int b, .int 5, .ref 0, .long (31 * ((31 * ((31 * ((31 * ((31 * a) + x1.toInt64)) + x4.toInt64)) + x7.toInt64)) + x10.toInt64))]) (s1 := s11) rfl ?_
  refine UPB.cL (M1 := m_X6_chance) (as := [.ref 0, .int 5, .int b, .int 0]) (rest := [.long (31 * ((31 * ((31 * ((31 * ((31 * a) + x1.toInt64)) + x4.toInt64)) + x7.toInt64)) + x10.toInt64))]) rfl rfl (KL_chance h12 5 b 0) (fun x13 s14 h15 => ?_)
  refine UPB.stp 9 (i1 := 59) (L1 := [some (.ref 0), some (.long a), none, some (.int b), some (.long ((31 * ((31 * ((31 * ((31 * ((31 * a) + x1.toInt64)) + x4.toInt64)) + x7.toInt64)) + x10.toInt64)) + x13)), none]) (st1 := [.int 1, .int b, .int 5, .ref 0, .long (31 * ((31 * ((31 * ((31 * ((31 * ((31 * a) + x1.toInt64)) + x4.toInt64)) + x7.toInt64)) + x10.toInt64)) + x13))]) (s1 := s14) rfl ?_
  refine UPB.cL (M1 := m_X6_chance) (as := [.ref 0, .int 5, .int b, .int 1]) (rest := [.long (31 * ((31 * ((31 * ((31 * ((31 * ((31 * a) + x1.toInt64)) + x4.toInt64)) + x7.toInt64)) + x10.toInt64)) + x13))]) rfl rfl (KL_chance h15 5 b 1) (fun x16 s17 h18 => ?_)
  refine UPB.stp 1 (i1 := 61) (L1 := [some (.ref 0), some (.long a), none, some (.int b), some (.long ((31 * ((31 * ((31 * ((31 * ((31 * a) + x1.toInt64)) + x4.toInt64)) + x7.toInt64)) + x10.toInt64)) + x13)), none]) (st1 := [.long ((31 * ((31 * ((31 * ((31 * ((31 * ((31 * a) + x1.toInt64)) + x4.toInt64)) + x7.toInt64)) + x10.toInt64)) + x13)) + x16)]) (s1 := s17) rfl ?_
  exact UPB.ret (r := some (.long ((31 * ((31 * ((31 * ((31 * ((31 * ((31 * a) + x1.toInt64)) + x4.toInt64)) + x7.toInt64)) + x10.toInt64)) + x13)) + x16))) rfl ⟨⟨_, rfl⟩, h18⟩
theorem KL_addWhole {s : SG} (h : KF s) (a : Int64) : UP m_X6_addWhole 0 (m_ent 5 [.ref 0, .long a]) [] s KL := by
  refine UP.of_b (fun n => ?_)
  refine UPB.stp 6 (i1 := 6) (L1 := [some (.ref 0), some (.long a), none, some (.long a), none]) (st1 := [.ref 0, .long (31 * a)]) (s1 := s) rfl ?_
  refine UPB.cI (M1 := m_X6_there) (as := [.ref 0]) (rest := [.long (31 * a)]) rfl rfl (KI_there h) (fun x1 s2 h3 => ?_)
  refine UPB.stp 8 (i1 := 15) (L1 := [some (.ref 0), some (.long a), none, some (.long ((31 * a) + x1.toInt64)), none]) (st1 := [.int 0, .ref 0, .long (31 * ((31 * a) + x1.toInt64))]) (s1 := s2) rfl ?_
  refine UPB.cI (M1 := m_X6_grounded) (as := [.ref 0, .int 0]) (rest := [.long (31 * ((31 * a) + x1.toInt64))]) rfl rfl (KI_grounded h3 0) (fun x4 s5 h6 => ?_)
  refine UPB.stp 8 (i1 := 24) (L1 := [some (.ref 0), some (.long a), none, some (.long ((31 * ((31 * a) + x1.toInt64)) + x4.toInt64)), none]) (st1 := [.int 1, .ref 0, .long (31 * ((31 * ((31 * a) + x1.toInt64)) + x4.toInt64))]) (s1 := s5) rfl ?_
  refine UPB.cI (M1 := m_X6_grounded) (as := [.ref 0, .int 1]) (rest := [.long (31 * ((31 * ((31 * a) + x1.toInt64)) + x4.toInt64))]) rfl rfl (KI_grounded h6 1) (fun x7 s8 h9 => ?_)
  refine UPB.stp 8 (i1 := 33) (L1 := [some (.ref 0), some (.long a), none, some (.long ((31 * ((31 * ((31 * a) + x1.toInt64)) + x4.toInt64)) + x7.toInt64)), none]) (st1 := [.int 0, .ref 0, .long (31 * ((31 * ((31 * ((31 * a) + x1.toInt64)) + x4.toInt64)) + x7.toInt64))]) (s1 := s8) rfl ?_
  refine UPB.cI (M1 := m_X6_stray) (as := [.ref 0, .int 0]) (rest := [.long (31 * ((31 * ((31 * ((31 * a) + x1.toInt64)) + x4.toInt64)) + x7.toInt64))]) rfl rfl (KI_stray h9 0) (fun x10 s11 h12 => ?_)
  refine UPB.stp 8 (i1 := 42) (L1 := [some (.ref 0), some (.long a), none, some (.long ((31 * ((31 * ((31 * ((31 * a) + x1.toInt64)) + x4.toInt64)) + x7.toInt64)) + x10.toInt64)), none]) (st1 := [.int 1, .ref 0, .long (31 * ((31 * ((31 * ((31 * ((31 * a) + x1.toInt64)) + x4.toInt64)) + x7.toInt64)) + x10.toInt64))]) (s1 := s11) rfl ?_
  refine UPB.cI (M1 := m_X6_stray) (as := [.ref 0, .int 1]) (rest := [.long (31 * ((31 * ((31 * ((31 * ((31 * a) + x1.toInt64)) + x4.toInt64)) + x7.toInt64)) + x10.toInt64))]) rfl rfl (KI_stray h12 1) (fun x13 s14 h15 => ?_)
  refine UPB.stp 7 (i1 := 50) (L1 := [some (.ref 0), some (.long a), none, some (.long ((31 * ((31 * ((31 * ((31 * ((31 * a) + x1.toInt64)) + x4.toInt64)) + x7.toInt64)) + x10.toInt64)) + x13.toInt64)), none]) (st1 := [.ref 0, .long (31 * ((31 * ((31 * ((31 * ((31 * ((31 * a) + x1.toInt64)) + x4.toInt64)) + x7.toInt64)) + x10.toInt64)) + x13.toInt64))]) (s1 := s14) rfl ?_
  refine UPB.cI (M1 := m_X6_best) (as := [.ref 0]) (rest := [.long (31 * ((31 * ((31 * ((31 * ((31 * ((31 * a) + x1.toInt64)) + x4.toInt64)) + x7.toInt64)) + x10.toInt64)) + x13.toInt64))]) rfl rfl (KI_best h15) (fun x16 s17 h18 => ?_)
  refine UPB.stp 7 (i1 := 58) (L1 := [some (.ref 0), some (.long a), none, some (.long ((31 * ((31 * ((31 * ((31 * ((31 * ((31 * a) + x1.toInt64)) + x4.toInt64)) + x7.toInt64)) + x10.toInt64)) + x13.toInt64)) + x16.toInt64)), none]) (st1 := [.ref 0, .long (31 * ((31 * ((31 * ((31 * ((31 * ((31 * ((31 * a) + x1.toInt64)) + x4.toInt64)) + x7.toInt64)) + x10.toInt64)) + x13.toInt64)) + x16.toInt64))]) (s1 := s17) rfl ?_
  refine UPB.cI (M1 := m_X6_idle) (as := [.ref 0]) (rest := [.long (31 * ((31 * ((31 * ((31 * ((31 * ((31 * ((31 * a) + x1.toInt64)) + x4.toInt64)) + x7.toInt64)) + x10.toInt64)) + x13.toInt64)) + x16.toInt64))]) rfl rfl (KI_idle h18) (fun x19 s20 h21 => ?_)
  refine UPB.stp 8 (i1 := 67) (L1 := [some (.ref 0), some (.long a), none, some (.long ((31 * ((31 * ((31 * ((31 * ((31 * ((31 * ((31 * a) + x1.toInt64)) + x4.toInt64)) + x7.toInt64)) + x10.toInt64)) + x13.toInt64)) + x16.toInt64)) + x19.toInt64)), none]) (st1 := [.int 0, .ref 0, .long (31 * ((31 * ((31 * ((31 * ((31 * ((31 * ((31 * ((31 * a) + x1.toInt64)) + x4.toInt64)) + x7.toInt64)) + x10.toInt64)) + x13.toInt64)) + x16.toInt64)) + x19.toInt64))]) (s1 := s20) rfl ?_
  refine UPB.cI (M1 := m_X6_swap) (as := [.ref 0, .int 0]) (rest := [.long (31 * ((31 * ((31 * ((31 * ((31 * ((31 * ((31 * ((31 * a) + x1.toInt64)) + x4.toInt64)) + x7.toInt64)) + x10.toInt64)) + x13.toInt64)) + x16.toInt64)) + x19.toInt64))]) rfl rfl (KI_swap h21 0) (fun x22 s23 h24 => ?_)
  refine UPB.stp 8 (i1 := 76) (L1 := [some (.ref 0), some (.long a), none, some (.long ((31 * ((31 * ((31 * ((31 * ((31 * ((31 * ((31 * ((31 * a) + x1.toInt64)) + x4.toInt64)) + x7.toInt64)) + x10.toInt64)) + x13.toInt64)) + x16.toInt64)) + x19.toInt64)) + x22.toInt64)), none]) (st1 := [.int 1, .ref 0, .long (31 * ((31 * ((31 * ((31 * ((31 * ((31 * ((31 * ((31 * ((31 * a) + x1.toInt64)) + x4.toInt64)) + x7.toInt64)) + x10.toInt64)) + x13.toInt64)) + x16.toInt64)) + x19.toInt64)) + x22.toInt64))]) (s1 := s23) rfl ?_
  refine UPB.cI (M1 := m_X6_swap) (as := [.ref 0, .int 1]) (rest := [.long (31 * ((31 * ((31 * ((31 * ((31 * ((31 * ((31 * ((31 * ((31 * a) + x1.toInt64)) + x4.toInt64)) + x7.toInt64)) + x10.toInt64)) + x13.toInt64)) + x16.toInt64)) + x19.toInt64)) + x22.toInt64))]) rfl rfl (KI_swap h24 1) (fun x25 s26 h27 => ?_)
  refine UPB.stp 8 (i1 := 85) (L1 := [some (.ref 0), some (.long a), none, some (.long ((31 * ((31 * ((31 * ((31 * ((31 * ((31 * ((31 * ((31 * ((31 * a) + x1.toInt64)) + x4.toInt64)) + x7.toInt64)) + x10.toInt64)) + x13.toInt64)) + x16.toInt64)) + x19.toInt64)) + x22.toInt64)) + x25.toInt64)), none]) (st1 := [.int 2, .ref 0, .long (31 * ((31 * ((31 * ((31 * ((31 * ((31 * ((31 * ((31 * ((31 * ((31 * a) + x1.toInt64)) + x4.toInt64)) + x7.toInt64)) + x10.toInt64)) + x13.toInt64)) + x16.toInt64)) + x19.toInt64)) + x22.toInt64)) + x25.toInt64))]) (s1 := s26) rfl ?_
  refine UPB.cI (M1 := m_X6_swap) (as := [.ref 0, .int 2]) (rest := [.long (31 * ((31 * ((31 * ((31 * ((31 * ((31 * ((31 * ((31 * ((31 * ((31 * a) + x1.toInt64)) + x4.toInt64)) + x7.toInt64)) + x10.toInt64)) + x13.toInt64)) + x16.toInt64)) + x19.toInt64)) + x22.toInt64)) + x25.toInt64))]) rfl rfl (KI_swap h27 2) (fun x28 s29 h30 => ?_)
  refine UPB.stp 8 (i1 := 94) (L1 := [some (.ref 0), some (.long a), none, some (.long ((31 * ((31 * ((31 * ((31 * ((31 * ((31 * ((31 * ((31 * ((31 * ((31 * a) + x1.toInt64)) + x4.toInt64)) + x7.toInt64)) + x10.toInt64)) + x13.toInt64)) + x16.toInt64)) + x19.toInt64)) + x22.toInt64)) + x25.toInt64)) + x28.toInt64)), none]) (st1 := [.int (-1), .ref 0, .long (31 * ((31 * ((31 * ((31 * ((31 * ((31 * ((31 * ((31 * ((31 * ((31 * ((31 * a) + x1.toInt64)) + x4.toInt64)) + x7.toInt64)) + x10.toInt64)) + x13.toInt64)) + x16.toInt64)) + x19.toInt64)) + x22.toInt64)) + x25.toInt64)) + x28.toInt64))]) (s1 := s29) rfl ?_
  refine UPB.cI (M1 := m_X6_spare) (as := [.ref 0, .int (-1)]) (rest := [.long (31 * ((31 * ((31 * ((31 * ((31 * ((31 * ((31 * ((31 * ((31 * ((31 * ((31 * a) + x1.toInt64)) + x4.toInt64)) + x7.toInt64)) + x10.toInt64)) + x13.toInt64)) + x16.toInt64)) + x19.toInt64)) + x22.toInt64)) + x25.toInt64)) + x28.toInt64))]) rfl rfl (KI_spare h30 (-1)) (fun x31 s32 h33 => ?_)
  refine UPB.stp 8 (i1 := 103) (L1 := [some (.ref 0), some (.long a), none, some (.long ((31 * ((31 * ((31 * ((31 * ((31 * ((31 * ((31 * ((31 * ((31 * ((31 * ((31 * a) + x1.toInt64)) + x4.toInt64)) + x7.toInt64)) + x10.toInt64)) + x13.toInt64)) + x16.toInt64)) + x19.toInt64)) + x22.toInt64)) + x25.toInt64)) + x28.toInt64)) + x31.toInt64)), none]) (st1 := [.int 0, .ref 0, .long (31 * ((31 * ((31 * ((31 * ((31 * ((31 * ((31 * ((31 * ((31 * ((31 * ((31 * ((31 * a) + x1.toInt64)) + x4.toInt64)) + x7.toInt64)) + x10.toInt64)) + x13.toInt64)) + x16.toInt64)) + x19.toInt64)) + x22.toInt64)) + x25.toInt64)) + x28.toInt64)) + x31.toInt64))]) (s1 := s32) rfl ?_
  refine UPB.cI (M1 := m_X6_spare) (as := [.ref 0, .int 0]) (rest := [.long (31 * ((31 * ((31 * ((31 * ((31 * ((31 * ((31 * ((31 * ((31 * ((31 * ((31 * ((31 * a) + x1.toInt64)) + x4.toInt64)) + x7.toInt64)) + x10.toInt64)) + x13.toInt64)) + x16.toInt64)) + x19.toInt64)) + x22.toInt64)) + x25.toInt64)) + x28.toInt64)) + x31.toInt64))]) rfl rfl (KI_spare h33 0) (fun x34 s35 h36 => ?_)
  refine UPB.stp 7 (i1 := 111) (L1 := [some (.ref 0), some (.long a), none, some (.long ((31 * ((31 * ((31 * ((31 * ((31 * ((31 * ((31 * ((31 * ((31 * ((31 * ((31 * ((31 * a) + x1.toInt64)) + x4.toInt64)) + x7.toInt64)) + x10.toInt64)) + x13.toInt64)) + x16.toInt64)) + x19.toInt64)) + x22.toInt64)) + x25.toInt64)) + x28.toInt64)) + x31.toInt64)) + x34.toInt64)), none]) (st1 := [.ref 0, .long (31 * ((31 * ((31 * ((31 * ((31 * ((31 * ((31 * ((31 * ((31 * ((31 * ((31 * ((31 * ((31 * a) + x1.toInt64)) + x4.toInt64)) + x7.toInt64)) + x10.toInt64)) + x13.toInt64)) + x16.toInt64)) + x19.toInt64)) + x22.toInt64)) + x25.toInt64)) + x28.toInt64)) + x31.toInt64)) + x34.toInt64))]) (s1 := s35) rfl ?_
  refine UPB.cI (M1 := m_X6_never) (as := [.ref 0]) (rest := [.long (31 * ((31 * ((31 * ((31 * ((31 * ((31 * ((31 * ((31 * ((31 * ((31 * ((31 * ((31 * ((31 * a) + x1.toInt64)) + x4.toInt64)) + x7.toInt64)) + x10.toInt64)) + x13.toInt64)) + x16.toInt64)) + x19.toInt64)) + x22.toInt64)) + x25.toInt64)) + x28.toInt64)) + x31.toInt64)) + x34.toInt64))]) rfl rfl (KI_never h36) (fun x37 s38 h39 => ?_)
  refine UPB.stp 10 (i1 := 122) (L1 := [some (.ref 0), some (.long a), none, some (.long ((31 * ((31 * ((31 * ((31 * ((31 * ((31 * ((31 * ((31 * ((31 * ((31 * ((31 * ((31 * ((31 * a) + x1.toInt64)) + x4.toInt64)) + x7.toInt64)) + x10.toInt64)) + x13.toInt64)) + x16.toInt64)) + x19.toInt64)) + x22.toInt64)) + x25.toInt64)) + x28.toInt64)) + x31.toInt64)) + x34.toInt64)) + x37.toInt64)), none]) (st1 := [.int 0, .int 18, .int 7, .ref 0, .long (31 * ((31 * ((31 * ((31 * ((31 * ((31 * ((31 * ((31 * ((31 * ((31 * ((31 * ((31 * ((31 * ((31 * a) + x1.toInt64)) + x4.toInt64)) + x7.toInt64)) + x10.toInt64)) + x13.toInt64)) + x16.toInt64)) + x19.toInt64)) + x22.toInt64)) + x25.toInt64)) + x28.toInt64)) + x31.toInt64)) + x34.toInt64)) + x37.toInt64))]) (s1 := s38) rfl ?_
  refine UPB.cI (M1 := m_X6_years) (as := [.ref 0, .int 7, .int 18, .int 0]) (rest := [.long (31 * ((31 * ((31 * ((31 * ((31 * ((31 * ((31 * ((31 * ((31 * ((31 * ((31 * ((31 * ((31 * ((31 * a) + x1.toInt64)) + x4.toInt64)) + x7.toInt64)) + x10.toInt64)) + x13.toInt64)) + x16.toInt64)) + x19.toInt64)) + x22.toInt64)) + x25.toInt64)) + x28.toInt64)) + x31.toInt64)) + x34.toInt64)) + x37.toInt64))]) rfl rfl (KI_years h39 7 18 0) (fun x40 s41 h42 => ?_)
  refine UPB.stp 10 (i1 := 133) (L1 := [some (.ref 0), some (.long a), none, some (.long ((31 * ((31 * ((31 * ((31 * ((31 * ((31 * ((31 * ((31 * ((31 * ((31 * ((31 * ((31 * ((31 * ((31 * a) + x1.toInt64)) + x4.toInt64)) + x7.toInt64)) + x10.toInt64)) + x13.toInt64)) + x16.toInt64)) + x19.toInt64)) + x22.toInt64)) + x25.toInt64)) + x28.toInt64)) + x31.toInt64)) + x34.toInt64)) + x37.toInt64)) + x40.toInt64)), none]) (st1 := [.int 1, .int 18, .int 7, .ref 0, .long (31 * ((31 * ((31 * ((31 * ((31 * ((31 * ((31 * ((31 * ((31 * ((31 * ((31 * ((31 * ((31 * ((31 * ((31 * a) + x1.toInt64)) + x4.toInt64)) + x7.toInt64)) + x10.toInt64)) + x13.toInt64)) + x16.toInt64)) + x19.toInt64)) + x22.toInt64)) + x25.toInt64)) + x28.toInt64)) + x31.toInt64)) + x34.toInt64)) + x37.toInt64)) + x40.toInt64))]) (s1 := s41) rfl ?_
  refine UPB.cI (M1 := m_X6_years) (as := [.ref 0, .int 7, .int 18, .int 1]) (rest := [.long (31 * ((31 * ((31 * ((31 * ((31 * ((31 * ((31 * ((31 * ((31 * ((31 * ((31 * ((31 * ((31 * ((31 * ((31 * a) + x1.toInt64)) + x4.toInt64)) + x7.toInt64)) + x10.toInt64)) + x13.toInt64)) + x16.toInt64)) + x19.toInt64)) + x22.toInt64)) + x25.toInt64)) + x28.toInt64)) + x31.toInt64)) + x34.toInt64)) + x37.toInt64)) + x40.toInt64))]) rfl rfl (KI_years h42 7 18 1) (fun x43 s44 h45 => ?_)
  refine UPB.stp 2 (i1 := 136) (L1 := [some (.ref 0), some (.long a), none, some (.long ((31 * ((31 * ((31 * ((31 * ((31 * ((31 * ((31 * ((31 * ((31 * ((31 * ((31 * ((31 * ((31 * ((31 * a) + x1.toInt64)) + x4.toInt64)) + x7.toInt64)) + x10.toInt64)) + x13.toInt64)) + x16.toInt64)) + x19.toInt64)) + x22.toInt64)) + x25.toInt64)) + x28.toInt64)) + x31.toInt64)) + x34.toInt64)) + x37.toInt64)) + x40.toInt64)), none]) (st1 := [.long ((31 * ((31 * ((31 * ((31 * ((31 * ((31 * ((31 * ((31 * ((31 * ((31 * ((31 * ((31 * ((31 * ((31 * ((31 * a) + x1.toInt64)) + x4.toInt64)) + x7.toInt64)) + x10.toInt64)) + x13.toInt64)) + x16.toInt64)) + x19.toInt64)) + x22.toInt64)) + x25.toInt64)) + x28.toInt64)) + x31.toInt64)) + x34.toInt64)) + x37.toInt64)) + x40.toInt64)) + x43.toInt64)]) (s1 := s44) rfl ?_
  exact UPB.ret (r := some (.long ((31 * ((31 * ((31 * ((31 * ((31 * ((31 * ((31 * ((31 * ((31 * ((31 * ((31 * ((31 * ((31 * ((31 * ((31 * a) + x1.toInt64)) + x4.toInt64)) + x7.toInt64)) + x10.toInt64)) + x13.toInt64)) + x16.toInt64)) + x19.toInt64)) + x22.toInt64)) + x25.toInt64)) + x28.toInt64)) + x31.toInt64)) + x34.toInt64)) + x37.toInt64)) + x40.toInt64)) + x43.toInt64))) rfl ⟨⟨_, rfl⟩, h45⟩
theorem KL_digest_hd : ∀ n, (∀ (v1 : Int64) (u2 : Option Value) (v3 : Int32) (s : SG), KF s → UPB n m_X6_digest 4 [some (.ref 0), some (.long v1), u2, some (.int v3)] [] s KL) ∧ (∀ (v1 : Int64) (u2 : Option Value) (v3 : Int32) (s : SG), KF s → UPB n m_X6_digest 20 [some (.ref 0), some (.long v1), u2, some (.int v3)] [] s KL) ∧ (∀ (v1 : Int64) (u2 : Option Value) (v3 : Int32) (s : SG), KF s → UPB n m_X6_digest 40 [some (.ref 0), some (.long v1), u2, some (.int v3)] [] s KL) := by
  intro n
  induction n with
  | zero => exact ⟨fun _ _ _ _ _ => UPB.zero, fun _ _ _ _ _ => UPB.zero, fun _ _ _ _ _ => UPB.zero⟩
  | succ n ih =>
    obtain ⟨IH4, IH20, IH40⟩ := ih
    refine ⟨?_, ?_, ?_⟩
    · intro v1 u2 v3 s h
      refine UPB.hd 1 (i1 := 6) (L1 := [some (.ref 0), some (.long v1), u2, some (.int v3)]) (st1 := [.int 8, .int v3]) (s1 := s) rfl ?_
      refine UPB.ic rfl ?_ ?_
      · skip
        refine UPB.stp 2 (i1 := 20) (L1 := [some (.ref 0), some (.long v1), u2, some (.int 0)]) (st1 := []) (s1 := s) rfl ?_
        exact IH20 v1 u2 0 s h
      · skip
        refine UPB.stp 5 (i1 := 12) (L1 := [some (.ref 0), some (.long v1), u2, some (.int v3)]) (st1 := [.int v3, .ref 0, .long (31 * v1)]) (s1 := s) rfl ?_
        refine UPB.cI (M1 := m_X6_count) (as := [.ref 0, .int v3]) (rest := [.long (31 * v1)]) rfl rfl (KI_count h v3) (fun x1 s2 h3 => ?_)
        refine UPB.stp 5 (i1 := 4) (L1 := [some (.ref 0), some (.long ((31 * v1) + x1.toInt64)), u2, some (.int (v3 + 1))]) (st1 := []) (s1 := s2) rfl ?_
        exact IH4 ((31 * v1) + x1.toInt64) u2 (v3 + 1) s2 h3
    · intro v1 u2 v3 s h
      refine UPB.hd 1 (i1 := 22) (L1 := [some (.ref 0), some (.long v1), u2, some (.int v3)]) (st1 := [.int 3, .int v3]) (s1 := s) rfl ?_
      refine UPB.ic rfl ?_ ?_
      · skip
        refine UPB.stp 2 (i1 := 36) (L1 := [some (.ref 0), some (.long v1), u2, some (.int v3)]) (st1 := [.long v1, .ref 0]) (s1 := s) rfl ?_
        refine UPB.cL (M1 := m_X6_addMinutes) (as := [.ref 0, .long v1]) (rest := []) rfl rfl (KL_addMinutes h v1) (fun x4 s5 h6 => ?_)
        refine UPB.stp 3 (i1 := 40) (L1 := [some (.ref 0), some (.long x4), u2, some (.int 0)]) (st1 := []) (s1 := s5) rfl ?_
        exact IH40 x4 u2 0 s5 h6
      · skip
        refine UPB.stp 5 (i1 := 28) (L1 := [some (.ref 0), some (.long v1), u2, some (.int v3)]) (st1 := [.int v3, .ref 0, .long (31 * v1)]) (s1 := s) rfl ?_
        refine UPB.cI (M1 := m_X6_fault) (as := [.ref 0, .int v3]) (rest := [.long (31 * v1)]) rfl rfl (KI_fault h v3) (fun x7 s8 h9 => ?_)
        refine UPB.stp 5 (i1 := 20) (L1 := [some (.ref 0), some (.long ((31 * v1) + x7.toInt64)), u2, some (.int (v3 + 1))]) (st1 := []) (s1 := s8) rfl ?_
        exact IH20 ((31 * v1) + x7.toInt64) u2 (v3 + 1) s8 h9
    · intro v1 u2 v3 s h
      refine UPB.hd 3 (i1 := 44) (L1 := [some (.ref 0), some (.long v1), u2, some (.int v3)]) (st1 := [.int (s 10 0), .int v3]) (s1 := s) rfl ?_
      refine UPB.ic rfl ?_ ?_
      · skip
        refine UPB.stp 3 (i1 := 55) (L1 := [some (.ref 0), some (.long v1), u2, some (.int v3)]) (st1 := [.int 2, .long v1, .ref 0]) (s1 := s) rfl ?_
        refine UPB.cL (M1 := m_X6_addPlans) (as := [.ref 0, .long v1, .int 2]) (rest := []) rfl rfl (KL_addPlans h v1 2) (fun x10 s11 h12 => ?_)
        refine UPB.stp 4 (i1 := 60) (L1 := [some (.ref 0), some (.long x10), u2, some (.int v3)]) (st1 := [.int 10, .long x10, .ref 0]) (s1 := s11) rfl ?_
        refine UPB.cL (M1 := m_X6_addPlans) (as := [.ref 0, .long x10, .int 10]) (rest := []) rfl rfl (KL_addPlans h12 x10 10) (fun x13 s14 h15 => ?_)
        refine UPB.stp 3 (i1 := 64) (L1 := [some (.ref 0), some (.long x13), u2, some (.int v3)]) (st1 := [.long x13, .ref 0]) (s1 := s14) rfl ?_
        refine UPB.cL (M1 := m_X6_addWhole) (as := [.ref 0, .long x13]) (rest := []) rfl rfl (KL_addWhole h15 x13) (fun x16 s17 h18 => ?_)
        exact UPB.ret (r := some (.long x16)) rfl ⟨⟨_, rfl⟩, h18⟩
      · skip
        refine UPB.stp 3 (i1 := 48) (L1 := [some (.ref 0), some (.long v1), u2, some (.int v3)]) (st1 := [.int v3, .long v1, .ref 0]) (s1 := s) rfl ?_
        refine UPB.cL (M1 := m_X6_addRower) (as := [.ref 0, .long v1, .int v3]) (rest := []) rfl rfl (KL_addRower h v1 v3) (fun x19 s20 h21 => ?_)
        refine UPB.stp 3 (i1 := 40) (L1 := [some (.ref 0), some (.long x19), u2, some (.int (v3 + 1))]) (st1 := []) (s1 := s20) rfl ?_
        exact IH40 x19 u2 (v3 + 1) s20 h21
theorem KL_digest {s : SG} (h : KF s)  : UP m_X6_digest 0 (m_ent 4 [.ref 0]) [] s KL := by
  refine UP.of_b (fun n => ?_)
  obtain ⟨IH4, IH20, IH40⟩ := KL_digest_hd n
  refine UPB.stp 4 (i1 := 4) (L1 := [some (.ref 0), some (.long 17), none, some (.int 0)]) (st1 := []) (s1 := s) rfl ?_
  exact IH4 17 none 0 s h
