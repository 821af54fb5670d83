section
/-! digest (printed by wip/u/mk_inv.py) -/
theorem KL_addMinutes_hd : ∀ n, (∀ (v1 : Int64) (u2 : Option Value) (v3 : Int64) (u4 : Option Value) (v5 : Int32) (u6 : Option Value) (s : SG), KF s → UPB n m_X6_addMinutes 4 [some (.ref 0), some (.long v1), u2, some (.long v3), u4, some (.int v5), u6] [] s KL) ∧ (∀ (v1 : Int64) (u2 : Option Value) (v3 : Int64) (u4 : Option Value) (v5 : Int32) (v6 : Int32) (s : SG), KF s → UPB n m_X6_addMinutes 29 [some (.ref 0), some (.long v1), u2, some (.long v3), u4, some (.int v5), some (.int v6)] [] s KL) := by
  intro n
  induction n with
  | zero => exact ⟨fun _ _ _ _ _ _ _ _ => UPB.zero, fun _ _ _ _ _ _ _ _ => UPB.zero⟩
  | succ n ih =>
    obtain ⟨IH4, IH29⟩ := ih
    refine ⟨?_, ?_⟩
    · intro v1 u2 v3 u4 v5 u6 s h
      refine UPB.hd 1 (i1 := 6) (L1 := [some (.ref 0), some (.long v1), u2, some (.long v3), u4, some (.int v5), u6]) (st1 := [.int 24, .int v5]) (s1 := s) rfl ?_
      refine UPB.ic rfl ?_ ?_
      · skip
        refine UPB.stp 1 (i1 := 47) (L1 := [some (.ref 0), some (.long v1), u2, some (.long v3), u4, some (.int v5), u6]) (st1 := [.long v3]) (s1 := s) rfl ?_
        exact UPB.ret (r := some (.long v3)) rfl ⟨⟨_, rfl⟩, h⟩
      · skip
        refine UPB.stp 6 (i1 := 13) (L1 := [some (.ref 0), some (.long v1), u2, some (.long v3), u4, some (.int v5), u6]) (st1 := [.int 0, .int v5, .ref 0, .long (31 * v3)]) (s1 := s) rfl ?_
        refine UPB.cI (M1 := m_X6_call) (as := [.ref 0, .int v5, .int 0]) (rest := [.long (31 * v3)]) rfl rfl (KI_call h v5 0) (fun x1 s2 h3 => ?_)
        refine UPB.stp 9 (i1 := 23) (L1 := [some (.ref 0), some (.long v1), u2, some (.long ((31 * v3) + x1.toInt64)), u4, some (.int v5), u6]) (st1 := [.int 1, .int v5, .ref 0, .long (31 * ((31 * v3) + x1.toInt64))]) (s1 := s2) rfl ?_
        refine UPB.cI (M1 := m_X6_call) (as := [.ref 0, .int v5, .int 1]) (rest := [.long (31 * ((31 * v3) + x1.toInt64))]) rfl rfl (KI_call h3 v5 1) (fun x4 s5 h6 => ?_)
        refine UPB.stp 5 (i1 := 29) (L1 := [some (.ref 0), some (.long v1), u2, some (.long ((31 * ((31 * v3) + x1.toInt64)) + x4.toInt64)), u4, some (.int v5), some (.int 0)]) (st1 := []) (s1 := s5) rfl ?_
        exact IH29 v1 u2 ((31 * ((31 * v3) + x1.toInt64)) + x4.toInt64) u4 v5 0 s5 h6
    · intro v1 u2 v3 u4 v5 v6 s h
      refine UPB.hd 1 (i1 := 31) (L1 := [some (.ref 0), some (.long v1), u2, some (.long v3), u4, some (.int v5), some (.int v6)]) (st1 := [.int 5, .int v6]) (s1 := s) rfl ?_
      refine UPB.ic rfl ?_ ?_
      · skip
        refine UPB.stp 2 (i1 := 4) (L1 := [some (.ref 0), some (.long v1), u2, some (.long v3), u4, some (.int (v5 + 1)), some (.int v6)]) (st1 := []) (s1 := s) rfl ?_
        exact IH4 v1 u2 v3 u4 (v5 + 1) (some (.int v6)) s h
      · skip
        refine UPB.stp 6 (i1 := 38) (L1 := [some (.ref 0), some (.long v1), u2, some (.long v3), u4, some (.int v5), some (.int v6)]) (st1 := [.int v6, .int v5, .ref 0, .long (31 * v3)]) (s1 := s) rfl ?_
        refine UPB.cI (M1 := m_X6_at) (as := [.ref 0, .int v5, .int v6]) (rest := [.long (31 * v3)]) rfl rfl (KI_at h v5 v6) (fun x7 s8 h9 => ?_)
        refine UPB.stp 5 (i1 := 29) (L1 := [some (.ref 0), some (.long v1), u2, some (.long ((31 * v3) + x7.toInt64)), u4, some (.int v5), some (.int (v6 + 1))]) (st1 := []) (s1 := s8) rfl ?_
        exact IH29 v1 u2 ((31 * v3) + x7.toInt64) u4 v5 (v6 + 1) s8 h9
theorem KL_addMinutes {s : SG} (h : KF s) (a : Int64) : UP m_X6_addMinutes 0 (m_ent 7 [.ref 0, .long a]) [] s KL := by
  refine UP.of_b (fun n => ?_)
  obtain ⟨IH4, IH29⟩ := KL_addMinutes_hd n
  refine UPB.stp 4 (i1 := 4) (L1 := [some (.ref 0), some (.long a), none, some (.long a), none, some (.int 0), none]) (st1 := []) (s1 := s) rfl ?_
  exact IH4 a none a none 0 none s h
theorem KL_addRower {s : SG} (h : KF s) (a : Int64) (b : Int32) : UP m_X6_addRower 0 (m_ent 6 [.ref 0, .long a, .int b]) [] s KL := by
  refine UP.of_b (fun n => ?_)
  refine UPB.stp 8 (i1 := 8) (L1 := [some (.ref 0), some (.long a), none, some (.int b), some (.long a), none]) (st1 := [.int 0, .int b, .ref 0, .long (31 * a)]) (s1 := s) rfl ?_
  refine UPB.cI (M1 := m_X6_rower) (as := [.ref 0, .int b, .int 0]) (rest := [.long (31 * a)]) rfl rfl (KI_rower h b 0) (fun x1 s2 h3 => ?_)
  refine UPB.stp 9 (i1 := 18) (L1 := [some (.ref 0), some (.long a), none, some (.int b), some (.long ((31 * a) + x1.toInt64)), none]) (st1 := [.int 1, .int b, .ref 0, .long (31 * ((31 * a) + x1.toInt64))]) (s1 := s2) rfl ?_
  refine UPB.cI (M1 := m_X6_rower) (as := [.ref 0, .int b, .int 1]) (rest := [.long (31 * ((31 * a) + x1.toInt64))]) rfl rfl (KI_rower h3 b 1) (fun x4 s5 h6 => ?_)
  refine UPB.stp 9 (i1 := 28) (L1 := [some (.ref 0), some (.long a), none, some (.int b), some (.long ((31 * ((31 * a) + x1.toInt64)) + x4.toInt64)), none]) (st1 := [.int b, .int 0, .ref 0, .long (31 * ((31 * ((31 * a) + x1.toInt64)) + x4.toInt64))]) (s1 := s5) rfl ?_
  refine UPB.cI (M1 := m_X6_pulls) (as := [.ref 0, .int 0, .int b]) (rest := [.long (31 * ((31 * ((31 * a) + x1.toInt64)) + x4.toInt64))]) rfl rfl (KI_pulls h6 0 b) (fun x7 s8 h9 => ?_)
  refine UPB.stp 9 (i1 := 38) (L1 := [some (.ref 0), some (.long a), none, some (.int b), some (.long ((31 * ((31 * ((31 * a) + x1.toInt64)) + x4.toInt64)) + x7.toInt64)), none]) (st1 := [.int b, .int 7, .ref 0, .long (31 * ((31 * ((31 * ((31 * a) + x1.toInt64)) + x4.toInt64)) + x7.toInt64))]) (s1 := s8) rfl ?_
  refine UPB.cI (M1 := m_X6_pulls) (as := [.ref 0, .int 7, .int b]) (rest := [.long (31 * ((31 * ((31 * ((31 * a) + x1.toInt64)) + x4.toInt64)) + x7.toInt64))]) rfl rfl (KI_pulls h9 7 b) (fun x10 s11 h12 => ?_)
  refine UPB.stp 9 (i1 := 48) (L1 := [some (.ref 0), some (.long a), none, some (.int b), some (.long ((31 * ((31 * ((31 * ((31 * a) + x1.toInt64)) + x4.toInt64)) + x7.toInt64)) + x10.toInt64)), none]) (st1 := [.int b, .int 15, .ref 0, .long (31 * ((31 * ((31 * ((31 * ((31 * a) + x1.toInt64)) + x4.toInt64)) + x7.toInt64)) + x10.toInt64))]) (s1 := s11) rfl ?_
  refine UPB.cI (M1 := m_X6_pulls) (as := [.ref 0, .int 15, .int b]) (rest := [.long (31 * ((31 * ((31 * ((31 * ((31 * a) + x1.toInt64)) + x4.toInt64)) + x7.toInt64)) + x10.toInt64))]) rfl rfl (KI_pulls h12 15 b) (fun x13 s14 h15 => ?_)
  refine UPB.stp 9 (i1 := 58) (L1 := [some (.ref 0), some (.long a), none, some (.int b), some (.long ((31 * ((31 * ((31 * ((31 * ((31 * a) + x1.toInt64)) + x4.toInt64)) + x7.toInt64)) + x10.toInt64)) + x13.toInt64)), none]) (st1 := [.int 0, .int b, .ref 0, .long (31 * ((31 * ((31 * ((31 * ((31 * ((31 * a) + x1.toInt64)) + x4.toInt64)) + x7.toInt64)) + x10.toInt64)) + x13.toInt64))]) (s1 := s14) rfl ?_
  refine UPB.cI (M1 := m_X6_done) (as := [.ref 0, .int b, .int 0]) (rest := [.long (31 * ((31 * ((31 * ((31 * ((31 * ((31 * a) + x1.toInt64)) + x4.toInt64)) + x7.toInt64)) + x10.toInt64)) + x13.toInt64))]) rfl rfl (KI_done h15 b 0) (fun x16 s17 h18 => ?_)
  refine UPB.stp 9 (i1 := 68) (L1 := [some (.ref 0), some (.long a), none, some (.int b), some (.long ((31 * ((31 * ((31 * ((31 * ((31 * ((31 * a) + x1.toInt64)) + x4.toInt64)) + x7.toInt64)) + x10.toInt64)) + x13.toInt64)) + x16.toInt64)), none]) (st1 := [.int 1, .int b, .ref 0, .long (31 * ((31 * ((31 * ((31 * ((31 * ((31 * ((31 * a) + x1.toInt64)) + x4.toInt64)) + x7.toInt64)) + x10.toInt64)) + x13.toInt64)) + x16.toInt64))]) (s1 := s17) rfl ?_
  refine UPB.cI (M1 := m_X6_done) (as := [.ref 0, .int b, .int 1]) (rest := [.long (31 * ((31 * ((31 * ((31 * ((31 * ((31 * ((31 * a) + x1.toInt64)) + x4.toInt64)) + x7.toInt64)) + x10.toInt64)) + x13.toInt64)) + x16.toInt64))]) rfl rfl (KI_done h18 b 1) (fun x19 s20 h21 => ?_)
  refine UPB.stp 9 (i1 := 78) (L1 := [some (.ref 0), some (.long a), none, some (.int b), some (.long ((31 * ((31 * ((31 * ((31 * ((31 * ((31 * ((31 * a) + x1.toInt64)) + x4.toInt64)) + x7.toInt64)) + x10.toInt64)) + x13.toInt64)) + x16.toInt64)) + x19.toInt64)), none]) (st1 := [.int 0, .int b, .ref 0, .long (31 * ((31 * ((31 * ((31 * ((31 * ((31 * ((31 * ((31 * a) + x1.toInt64)) + x4.toInt64)) + x7.toInt64)) + x10.toInt64)) + x13.toInt64)) + x16.toInt64)) + x19.toInt64))]) (s1 := s20) rfl ?_
  refine UPB.cI (M1 := m_X6_was) (as := [.ref 0, .int b, .int 0]) (rest := [.long (31 * ((31 * ((31 * ((31 * ((31 * ((31 * ((31 * ((31 * a) + x1.toInt64)) + x4.toInt64)) + x7.toInt64)) + x10.toInt64)) + x13.toInt64)) + x16.toInt64)) + x19.toInt64))]) rfl rfl (KI_was h21 b 0) (fun x22 s23 h24 => ?_)
  refine UPB.stp 9 (i1 := 88) (L1 := [some (.ref 0), some (.long a), none, some (.int b), some (.long ((31 * ((31 * ((31 * ((31 * ((31 * ((31 * ((31 * ((31 * a) + x1.toInt64)) + x4.toInt64)) + x7.toInt64)) + x10.toInt64)) + x13.toInt64)) + x16.toInt64)) + x19.toInt64)) + x22.toInt64)), none]) (st1 := [.int 1, .int b, .ref 0, .long (31 * ((31 * ((31 * ((31 * ((31 * ((31 * ((31 * ((31 * ((31 * a) + x1.toInt64)) + x4.toInt64)) + x7.toInt64)) + x10.toInt64)) + x13.toInt64)) + x16.toInt64)) + x19.toInt64)) + x22.toInt64))]) (s1 := s23) rfl ?_
  refine UPB.cI (M1 := m_X6_was) (as := [.ref 0, .int b, .int 1]) (rest := [.long (31 * ((31 * ((31 * ((31 * ((31 * ((31 * ((31 * ((31 * ((31 * a) + x1.toInt64)) + x4.toInt64)) + x7.toInt64)) + x10.toInt64)) + x13.toInt64)) + x16.toInt64)) + x19.toInt64)) + x22.toInt64))]) rfl rfl (KI_was h24 b 1) (fun x25 s26 h27 => ?_)
  refine UPB.stp 8 (i1 := 97) (L1 := [some (.ref 0), some (.long a), none, some (.int b), some (.long ((31 * ((31 * ((31 * ((31 * ((31 * ((31 * ((31 * ((31 * ((31 * a) + x1.toInt64)) + x4.toInt64)) + x7.toInt64)) + x10.toInt64)) + x13.toInt64)) + x16.toInt64)) + x19.toInt64)) + x22.toInt64)) + x25.toInt64)), none]) (st1 := [.int b, .ref 0, .long (31 * ((31 * ((31 * ((31 * ((31 * ((31 * ((31 * ((31 * ((31 * ((31 * a) + x1.toInt64)) + x4.toInt64)) + x7.toInt64)) + x10.toInt64)) + x13.toInt64)) + x16.toInt64)) + x19.toInt64)) + x22.toInt64)) + x25.toInt64))]) (s1 := s26) rfl ?_
  refine UPB.cI (M1 := m_X6_ask) (as := [.ref 0, .int b]) (rest := [.long (31 * ((31 * ((31 * ((31 * ((31 * ((31 * ((31 * ((31 * ((31 * ((31 * a) + x1.toInt64)) + x4.toInt64)) + x7.toInt64)) + x10.toInt64)) + x13.toInt64)) + x16.toInt64)) + x19.toInt64)) + x22.toInt64)) + x25.toInt64))]) rfl rfl (KI_ask h27 b) (fun x28 s29 h30 => ?_)
  refine UPB.stp 2 (i1 := 100) (L1 := [some (.ref 0), some (.long a), none, some (.int b), some (.long ((31 * ((31 * ((31 * ((31 * ((31 * ((31 * ((31 * ((31 * ((31 * a) + x1.toInt64)) + x4.toInt64)) + x7.toInt64)) + x10.toInt64)) + x13.toInt64)) + x16.toInt64)) + x19.toInt64)) + x22.toInt64)) + x25.toInt64)), none]) (st1 := [.long ((31 * ((31 * ((31 * ((31 * ((31 * ((31 * ((31 * ((31 * ((31 * ((31 * a) + x1.toInt64)) + x4.toInt64)) + x7.toInt64)) + x10.toInt64)) + x13.toInt64)) + x16.toInt64)) + x19.toInt64)) + x22.toInt64)) + x25.toInt64)) + x28.toInt64)]) (s1 := s29) rfl ?_
  exact UPB.ret (r := some (.long ((31 * ((31 * ((31 * ((31 * ((31 * ((31 * ((31 * ((31 * ((31 * ((31 * a) + x1.toInt64)) + x4.toInt64)) + x7.toInt64)) + x10.toInt64)) + x13.toInt64)) + x16.toInt64)) + x19.toInt64)) + x22.toInt64)) + x25.toInt64)) + x28.toInt64))) rfl ⟨⟨_, rfl⟩, h30⟩
theorem KL_addPlans {s : SG} (h : KF s) (a : Int64) (b : Int32) : UP m_X6_addPlans 0 (m_ent 6 [.ref 0, .long a, .int b]) [] s KL := by
  refine UP.of_b (fun n => ?_)
  refine UPB.stp 8 (i1 := 8) (L1 := [some (.ref 0), some (.long a), none, some (.int b), some (.long a), none]) (st1 := [.int 0, .int b, .ref 0, .long (31 * a)]) (s1 := s) rfl ?_
  refine UPB.cI (M1 := m_X6_steer) (as := [.ref 0, .int b, .int 0]) (rest := [.long (31 * a)]) rfl rfl (KI_steer h b 0) (fun x1 s2 h3 => ?_)
  refine UPB.stp 9 (i1 := 18) (L1 := [some (.ref 0), some (.long a), none, some (.int b), some (.long ((31 * a) + x1.toInt64)), none]) (st1 := [.int 1, .int b, .ref 0, .long (31 * ((31 * a) + x1.toInt64))]) (s1 := s2) rfl ?_
  refine UPB.cI (M1 := m_X6_steer) (as := [.ref 0, .int b, .int 1]) (rest := [.long (31 * ((31 * a) + x1.toInt64))]) rfl rfl (KI_steer h3 b 1) (fun x4 s5 h6 => ?_)
  refine UPB.stp 9 (i1 := 28) (L1 := [some (.ref 0), some (.long a), none, some (.int b), some (.long ((31 * ((31 * a) + x1.toInt64)) + x4.toInt64)), none]) (st1 := [.int 0, .int b, .ref 0, .long (31 * ((31 * ((31 * a) + x1.toInt64)) + x4.toInt64))]) (s1 := s5) rfl ?_
  refine UPB.cI (M1 := m_X6_stroke) (as := [.ref 0, .int b, .int 0]) (rest := [.long (31 * ((31 * ((31 * a) + x1.toInt64)) + x4.toInt64))]) rfl rfl (KI_stroke h6 b 0) (fun x7 s8 h9 => ?_)
  refine UPB.stp 9 (i1 := 38) (L1 := [some (.ref 0), some (.long a), none, some (.int b), some (.long ((31 * ((31 * ((31 * a) + x1.toInt64)) + x4.toInt64)) + x7.toInt64)), none]) (st1 := [.int 1, .int b, .ref 0, .long (31 * ((31 * ((31 * ((31 * a) + x1.toInt64)) + x4.toInt64)) + x7.toInt64))]) (s1 := s8) rfl ?_
  refine UPB.cI (M1 := m_X6_stroke) (as := [.ref 0, .int b, .int 1]) (rest := [.long (31 * ((31 * ((31 * ((31 * a) + x1.toInt64)) + x4.toInt64)) + x7.toInt64))]) rfl rfl (KI_stroke h9 b 1) (fun x10 s11 h12 => ?_)
  refine UPB.stp 10 (i1 := 49) (L1 := [some (.ref 0), some (.long a), none, some (.int b), some (.long ((31 * ((31 * ((31 * ((31 * a) + x1.toInt64)) + x4.toInt64)) + x7.toInt64)) + x10.toInt64)), none]) (st1 := [.int 0, .int b, .int 5, .ref 0, .long (31 * ((31 * ((31 * ((31 * ((31 * a) + x1.toInt64)) + x4.toInt64)) + x7.toInt64)) + x10.toInt64))]) (s1 := s11) rfl ?_
  refine UPB.cL (M1 := m_X6_chance) (as := [.ref 0, .int 5, .int b, .int 0]) (rest := [.long (31 * ((31 * ((31 * ((31 * ((31 * a) + x1.toInt64)) + x4.toInt64)) + x7.toInt64)) + x10.toInt64))]) rfl rfl (KL_chance h12 5 b 0) (fun x13 s14 h15 => ?_)
  refine UPB.stp 9 (i1 := 59) (L1 := [some (.ref 0), some (.long a), none, some (.int b), some (.long ((31 * ((31 * ((31 * ((31 * ((31 * a) + x1.toInt64)) + x4.toInt64)) + x7.toInt64)) + x10.toInt64)) + x13)), none]) (st1 := [.int 1, .int b, .int 5, .ref 0, .long (31 * ((31 * ((31 * ((31 * ((31 * ((31 * a) + x1.toInt64)) + x4.toInt64)) + x7.toInt64)) + x10.toInt64)) + x13))]) (s1 := s14) rfl ?_
  refine UPB.cL (M1 := m_X6_chance) (as := [.ref 0, .int 5, .int b, .int 1]) (rest := [.long (31 * ((31 * ((31 * ((31 * ((31 * ((31 * a) + x1.toInt64)) + x4.toInt64)) + x7.toInt64)) + x10.toInt64)) + x13))]) rfl rfl (KL_chance h15 5 b 1) (fun x16 s17 h18 => ?_)
  refine UPB.stp 1 (i1 := 61) (L1 := [some (.ref 0), some (.long a), none, some (.int b), some (.long ((31 * ((31 * ((31 * ((31 * ((31 * a) + x1.toInt64)) + x4.toInt64)) + x7.toInt64)) + x10.toInt64)) + x13)), none]) (st1 := [.long ((31 * ((31 * ((31 * ((31 * ((31 * ((31 * a) + x1.toInt64)) + x4.toInt64)) + x7.toInt64)) + x10.toInt64)) + x13)) + x16)]) (s1 := s17) rfl ?_
  exact UPB.ret (r := some (.long ((31 * ((31 * ((31 * ((31 * ((31 * ((31 * a) + x1.toInt64)) + x4.toInt64)) + x7.toInt64)) + x10.toInt64)) + x13)) + x16))) rfl ⟨⟨_, rfl⟩, h18⟩
theorem KL_addWhole {s : SG} (h : KF s) (a : Int64) : UP m_X6_addWhole 0 (m_ent 5 [.ref 0, .long a]) [] s KL := by
  refine UP.of_b (fun n => ?_)
  refine UPB.stp 6 (i1 := 6) (L1 := [some (.ref 0), some (.long a), none, some (.long a), none]) (st1 := [.ref 0, .long (31 * a)]) (s1 := s) rfl ?_
  refine UPB.cI (M1 := m_X6_there) (as := [.ref 0]) (rest := [.long (31 * a)]) rfl rfl (KI_there h) (fun x1 s2 h3 => ?_)
  refine UPB.stp 8 (i1 := 15) (L1 := [some (.ref 0), some (.long a), none, some (.long ((31 * a) + x1.toInt64)), none]) (st1 := [.int 0, .ref 0, .long (31 * ((31 * a) + x1.toInt64))]) (s1 := s2) rfl ?_
  refine UPB.cI (M1 := m_X6_grounded) (as := [.ref 0, .int 0]) (rest := [.long (31 * ((31 * a) + x1.toInt64))]) rfl rfl (KI_grounded h3 0) (fun x4 s5 h6 => ?_)
  refine UPB.stp 8 (i1 := 24) (L1 := [some (.ref 0), some (.long a), none, some (.long ((31 * ((31 * a) + x1.toInt64)) + x4.toInt64)), none]) (st1 := [.int 1, .ref 0, .long (31 * ((31 * ((31 * a) + x1.toInt64)) + x4.toInt64))]) (s1 := s5) rfl ?_
  refine UPB.cI (M1 := m_X6_grounded) (as := [.ref 0, .int 1]) (rest := [.long (31 * ((31 * ((31 * a) + x1.toInt64)) + x4.toInt64))]) rfl rfl (KI_grounded h6 1) (fun x7 s8 h9 => ?_)
  refine UPB.stp 8 (i1 := 33) (L1 := [some (.ref 0), some (.long a), none, some (.long ((31 * ((31 * ((31 * a) + x1.toInt64)) + x4.toInt64)) + x7.toInt64)), none]) (st1 := [.int 0, .ref 0, .long (31 * ((31 * ((31 * ((31 * a) + x1.toInt64)) + x4.toInt64)) + x7.toInt64))]) (s1 := s8) rfl ?_
  refine UPB.cI (M1 := m_X6_stray) (as := [.ref 0, .int 0]) (rest := [.long (31 * ((31 * ((31 * ((31 * a) + x1.toInt64)) + x4.toInt64)) + x7.toInt64))]) rfl rfl (KI_stray h9 0) (fun x10 s11 h12 => ?_)
  refine UPB.stp 8 (i1 := 42) (L1 := [some (.ref 0), some (.long a), none, some (.long ((31 * ((31 * ((31 * ((31 * a) + x1.toInt64)) + x4.toInt64)) + x7.toInt64)) + x10.toInt64)), none]) (st1 := [.int 1, .ref 0, .long (31 * ((31 * ((31 * ((31 * ((31 * a) + x1.toInt64)) + x4.toInt64)) + x7.toInt64)) + x10.toInt64))]) (s1 := s11) rfl ?_
  refine UPB.cI (M1 := m_X6_stray) (as := [.ref 0, .int 1]) (rest := [.long (31 * ((31 * ((31 * ((31 * ((31 * a) + x1.toInt64)) + x4.toInt64)) + x7.toInt64)) + x10.toInt64))]) rfl rfl (KI_stray h12 1) (fun x13 s14 h15 => ?_)
  refine UPB.stp 7 (i1 := 50) (L1 := [some (.ref 0), some (.long a), none, some (.long ((31 * ((31 * ((31 * ((31 * ((31 * a) + x1.toInt64)) + x4.toInt64)) + x7.toInt64)) + x10.toInt64)) + x13.toInt64)), none]) (st1 := [.ref 0, .long (31 * ((31 * ((31 * ((31 * ((31 * ((31 * a) + x1.toInt64)) + x4.toInt64)) + x7.toInt64)) + x10.toInt64)) + x13.toInt64))]) (s1 := s14) rfl ?_
  refine UPB.cI (M1 := m_X6_best) (as := [.ref 0]) (rest := [.long (31 * ((31 * ((31 * ((31 * ((31 * ((31 * a) + x1.toInt64)) + x4.toInt64)) + x7.toInt64)) + x10.toInt64)) + x13.toInt64))]) rfl rfl (KI_best h15) (fun x16 s17 h18 => ?_)
  refine UPB.stp 7 (i1 := 58) (L1 := [some (.ref 0), some (.long a), none, some (.long ((31 * ((31 * ((31 * ((31 * ((31 * ((31 * a) + x1.toInt64)) + x4.toInt64)) + x7.toInt64)) + x10.toInt64)) + x13.toInt64)) + x16.toInt64)), none]) (st1 := [.ref 0, .long (31 * ((31 * ((31 * ((31 * ((31 * ((31 * ((31 * a) + x1.toInt64)) + x4.toInt64)) + x7.toInt64)) + x10.toInt64)) + x13.toInt64)) + x16.toInt64))]) (s1 := s17) rfl ?_
  refine UPB.cI (M1 := m_X6_idle) (as := [.ref 0]) (rest := [.long (31 * ((31 * ((31 * ((31 * ((31 * ((31 * ((31 * a) + x1.toInt64)) + x4.toInt64)) + x7.toInt64)) + x10.toInt64)) + x13.toInt64)) + x16.toInt64))]) rfl rfl (KI_idle h18) (fun x19 s20 h21 => ?_)
  refine UPB.stp 8 (i1 := 67) (L1 := [some (.ref 0), some (.long a), none, some (.long ((31 * ((31 * ((31 * ((31 * ((31 * ((31 * ((31 * a) + x1.toInt64)) + x4.toInt64)) + x7.toInt64)) + x10.toInt64)) + x13.toInt64)) + x16.toInt64)) + x19.toInt64)), none]) (st1 := [.int 0, .ref 0, .long (31 * ((31 * ((31 * ((31 * ((31 * ((31 * ((31 * ((31 * a) + x1.toInt64)) + x4.toInt64)) + x7.toInt64)) + x10.toInt64)) + x13.toInt64)) + x16.toInt64)) + x19.toInt64))]) (s1 := s20) rfl ?_
  refine UPB.cI (M1 := m_X6_swap) (as := [.ref 0, .int 0]) (rest := [.long (31 * ((31 * ((31 * ((31 * ((31 * ((31 * ((31 * ((31 * a) + x1.toInt64)) + x4.toInt64)) + x7.toInt64)) + x10.toInt64)) + x13.toInt64)) + x16.toInt64)) + x19.toInt64))]) rfl rfl (KI_swap h21 0) (fun x22 s23 h24 => ?_)
  refine UPB.stp 8 (i1 := 76) (L1 := [some (.ref 0), some (.long a), none, some (.long ((31 * ((31 * ((31 * ((31 * ((31 * ((31 * ((31 * ((31 * a) + x1.toInt64)) + x4.toInt64)) + x7.toInt64)) + x10.toInt64)) + x13.toInt64)) + x16.toInt64)) + x19.toInt64)) + x22.toInt64)), none]) (st1 := [.int 1, .ref 0, .long (31 * ((31 * ((31 * ((31 * ((31 * ((31 * ((31 * ((31 * ((31 * a) + x1.toInt64)) + x4.toInt64)) + x7.toInt64)) + x10.toInt64)) + x13.toInt64)) + x16.toInt64)) + x19.toInt64)) + x22.toInt64))]) (s1 := s23) rfl ?_
  refine UPB.cI (M1 := m_X6_swap) (as := [.ref 0, .int 1]) (rest := [.long (31 * ((31 * ((31 * ((31 * ((31 * ((31 * ((31 * ((31 * ((31 * a) + x1.toInt64)) + x4.toInt64)) + x7.toInt64)) + x10.toInt64)) + x13.toInt64)) + x16.toInt64)) + x19.toInt64)) + x22.toInt64))]) rfl rfl (KI_swap h24 1) (fun x25 s26 h27 => ?_)
  refine UPB.stp 8 (i1 := 85) (L1 := [some (.ref 0), some (.long a), none, some (.long ((31 * ((31 * ((31 * ((31 * ((31 * ((31 * ((31 * ((31 * ((31 * a) + x1.toInt64)) + x4.toInt64)) + x7.toInt64)) + x10.toInt64)) + x13.toInt64)) + x16.toInt64)) + x19.toInt64)) + x22.toInt64)) + x25.toInt64)), none]) (st1 := [.int 2, .ref 0, .long (31 * ((31 * ((31 * ((31 * ((31 * ((31 * ((31 * ((31 * ((31 * ((31 * a) + x1.toInt64)) + x4.toInt64)) + x7.toInt64)) + x10.toInt64)) + x13.toInt64)) + x16.toInt64)) + x19.toInt64)) + x22.toInt64)) + x25.toInt64))]) (s1 := s26) rfl ?_
  refine UPB.cI (M1 := m_X6_swap) (as := [.ref 0, .int 2]) (rest := [.long (31 * ((31 * ((31 * ((31 * ((31 * ((31 * ((31 * ((31 * ((31 * ((31 * a) + x1.toInt64)) + x4.toInt64)) + x7.toInt64)) + x10.toInt64)) + x13.toInt64)) + x16.toInt64)) + x19.toInt64)) + x22.toInt64)) + x25.toInt64))]) rfl rfl (KI_swap h27 2) (fun x28 s29 h30 => ?_)
  refine UPB.stp 8 (i1 := 94) (L1 := [some (.ref 0), some (.long a), none, some (.long ((31 * ((31 * ((31 * ((31 * ((31 * ((31 * ((31 * ((31 * ((31 * ((31 * a) + x1.toInt64)) + x4.toInt64)) + x7.toInt64)) + x10.toInt64)) + x13.toInt64)) + x16.toInt64)) + x19.toInt64)) + x22.toInt64)) + x25.toInt64)) + x28.toInt64)), none]) (st1 := [.int (-1), .ref 0, .long (31 * ((31 * ((31 * ((31 * ((31 * ((31 * ((31 * ((31 * ((31 * ((31 * ((31 * a) + x1.toInt64)) + x4.toInt64)) + x7.toInt64)) + x10.toInt64)) + x13.toInt64)) + x16.toInt64)) + x19.toInt64)) + x22.toInt64)) + x25.toInt64)) + x28.toInt64))]) (s1 := s29) rfl ?_
  refine UPB.cI (M1 := m_X6_spare) (as := [.ref 0, .int (-1)]) (rest := [.long (31 * ((31 * ((31 * ((31 * ((31 * ((31 * ((31 * ((31 * ((31 * ((31 * ((31 * a) + x1.toInt64)) + x4.toInt64)) + x7.toInt64)) + x10.toInt64)) + x13.toInt64)) + x16.toInt64)) + x19.toInt64)) + x22.toInt64)) + x25.toInt64)) + x28.toInt64))]) rfl rfl (KI_spare h30 (-1)) (fun x31 s32 h33 => ?_)
  refine UPB.stp 8 (i1 := 103) (L1 := [some (.ref 0), some (.long a), none, some (.long ((31 * ((31 * ((31 * ((31 * ((31 * ((31 * ((31 * ((31 * ((31 * ((31 * ((31 * a) + x1.toInt64)) + x4.toInt64)) + x7.toInt64)) + x10.toInt64)) + x13.toInt64)) + x16.toInt64)) + x19.toInt64)) + x22.toInt64)) + x25.toInt64)) + x28.toInt64)) + x31.toInt64)), none]) (st1 := [.int 0, .ref 0, .long (31 * ((31 * ((31 * ((31 * ((31 * ((31 * ((31 * ((31 * ((31 * ((31 * ((31 * ((31 * a) + x1.toInt64)) + x4.toInt64)) + x7.toInt64)) + x10.toInt64)) + x13.toInt64)) + x16.toInt64)) + x19.toInt64)) + x22.toInt64)) + x25.toInt64)) + x28.toInt64)) + x31.toInt64))]) (s1 := s32) rfl ?_
  refine UPB.cI (M1 := m_X6_spare) (as := [.ref 0, .int 0]) (rest := [.long (31 * ((31 * ((31 * ((31 * ((31 * ((31 * ((31 * ((31 * ((31 * ((31 * ((31 * ((31 * a) + x1.toInt64)) + x4.toInt64)) + x7.toInt64)) + x10.toInt64)) + x13.toInt64)) + x16.toInt64)) + x19.toInt64)) + x22.toInt64)) + x25.toInt64)) + x28.toInt64)) + x31.toInt64))]) rfl rfl (KI_spare h33 0) (fun x34 s35 h36 => ?_)
  refine UPB.stp 7 (i1 := 111) (L1 := [some (.ref 0), some (.long a), none, some (.long ((31 * ((31 * ((31 * ((31 * ((31 * ((31 * ((31 * ((31 * ((31 * ((31 * ((31 * ((31 * a) + x1.toInt64)) + x4.toInt64)) + x7.toInt64)) + x10.toInt64)) + x13.toInt64)) + x16.toInt64)) + x19.toInt64)) + x22.toInt64)) + x25.toInt64)) + x28.toInt64)) + x31.toInt64)) + x34.toInt64)), none]) (st1 := [.ref 0, .long (31 * ((31 * ((31 * ((31 * ((31 * ((31 * ((31 * ((31 * ((31 * ((31 * ((31 * ((31 * ((31 * a) + x1.toInt64)) + x4.toInt64)) + x7.toInt64)) + x10.toInt64)) + x13.toInt64)) + x16.toInt64)) + x19.toInt64)) + x22.toInt64)) + x25.toInt64)) + x28.toInt64)) + x31.toInt64)) + x34.toInt64))]) (s1 := s35) rfl ?_
  refine UPB.cI (M1 := m_X6_never) (as := [.ref 0]) (rest := [.long (31 * ((31 * ((31 * ((31 * ((31 * ((31 * ((31 * ((31 * ((31 * ((31 * ((31 * ((31 * ((31 * a) + x1.toInt64)) + x4.toInt64)) + x7.toInt64)) + x10.toInt64)) + x13.toInt64)) + x16.toInt64)) + x19.toInt64)) + x22.toInt64)) + x25.toInt64)) + x28.toInt64)) + x31.toInt64)) + x34.toInt64))]) rfl rfl (KI_never h36) (fun x37 s38 h39 => ?_)
  refine UPB.stp 10 (i1 := 122) (L1 := [some (.ref 0), some (.long a), none, some (.long ((31 * ((31 * ((31 * ((31 * ((31 * ((31 * ((31 * ((31 * ((31 * ((31 * ((31 * ((31 * ((31 * a) + x1.toInt64)) + x4.toInt64)) + x7.toInt64)) + x10.toInt64)) + x13.toInt64)) + x16.toInt64)) + x19.toInt64)) + x22.toInt64)) + x25.toInt64)) + x28.toInt64)) + x31.toInt64)) + x34.toInt64)) + x37.toInt64)), none]) (st1 := [.int 0, .int 18, .int 7, .ref 0, .long (31 * ((31 * ((31 * ((31 * ((31 * ((31 * ((31 * ((31 * ((31 * ((31 * ((31 * ((31 * ((31 * ((31 * a) + x1.toInt64)) + x4.toInt64)) + x7.toInt64)) + x10.toInt64)) + x13.toInt64)) + x16.toInt64)) + x19.toInt64)) + x22.toInt64)) + x25.toInt64)) + x28.toInt64)) + x31.toInt64)) + x34.toInt64)) + x37.toInt64))]) (s1 := s38) rfl ?_
  refine UPB.cI (M1 := m_X6_years) (as := [.ref 0, .int 7, .int 18, .int 0]) (rest := [.long (31 * ((31 * ((31 * ((31 * ((31 * ((31 * ((31 * ((31 * ((31 * ((31 * ((31 * ((31 * ((31 * ((31 * a) + x1.toInt64)) + x4.toInt64)) + x7.toInt64)) + x10.toInt64)) + x13.toInt64)) + x16.toInt64)) + x19.toInt64)) + x22.toInt64)) + x25.toInt64)) + x28.toInt64)) + x31.toInt64)) + x34.toInt64)) + x37.toInt64))]) rfl rfl (KI_years h39 7 18 0) (fun x40 s41 h42 => ?_)
  refine UPB.stp 10 (i1 := 133) (L1 := [some (.ref 0), some (.long a), none, some (.long ((31 * ((31 * ((31 * ((31 * ((31 * ((31 * ((31 * ((31 * ((31 * ((31 * ((31 * ((31 * ((31 * ((31 * a) + x1.toInt64)) + x4.toInt64)) + x7.toInt64)) + x10.toInt64)) + x13.toInt64)) + x16.toInt64)) + x19.toInt64)) + x22.toInt64)) + x25.toInt64)) + x28.toInt64)) + x31.toInt64)) + x34.toInt64)) + x37.toInt64)) + x40.toInt64)), none]) (st1 := [.int 1, .int 18, .int 7, .ref 0, .long (31 * ((31 * ((31 * ((31 * ((31 * ((31 * ((31 * ((31 * ((31 * ((31 * ((31 * ((31 * ((31 * ((31 * ((31 * a) + x1.toInt64)) + x4.toInt64)) + x7.toInt64)) + x10.toInt64)) + x13.toInt64)) + x16.toInt64)) + x19.toInt64)) + x22.toInt64)) + x25.toInt64)) + x28.toInt64)) + x31.toInt64)) + x34.toInt64)) + x37.toInt64)) + x40.toInt64))]) (s1 := s41) rfl ?_
  refine UPB.cI (M1 := m_X6_years) (as := [.ref 0, .int 7, .int 18, .int 1]) (rest := [.long (31 * ((31 * ((31 * ((31 * ((31 * ((31 * ((31 * ((31 * ((31 * ((31 * ((31 * ((31 * ((31 * ((31 * ((31 * a) + x1.toInt64)) + x4.toInt64)) + x7.toInt64)) + x10.toInt64)) + x13.toInt64)) + x16.toInt64)) + x19.toInt64)) + x22.toInt64)) + x25.toInt64)) + x28.toInt64)) + x31.toInt64)) + x34.toInt64)) + x37.toInt64)) + x40.toInt64))]) rfl rfl (KI_years h42 7 18 1) (fun x43 s44 h45 => ?_)
  refine UPB.stp 2 (i1 := 136) (L1 := [some (.ref 0), some (.long a), none, some (.long ((31 * ((31 * ((31 * ((31 * ((31 * ((31 * ((31 * ((31 * ((31 * ((31 * ((31 * ((31 * ((31 * ((31 * a) + x1.toInt64)) + x4.toInt64)) + x7.toInt64)) + x10.toInt64)) + x13.toInt64)) + x16.toInt64)) + x19.toInt64)) + x22.toInt64)) + x25.toInt64)) + x28.toInt64)) + x31.toInt64)) + x34.toInt64)) + x37.toInt64)) + x40.toInt64)), none]) (st1 := [.long ((31 * ((31 * ((31 * ((31 * ((31 * ((31 * ((31 * ((31 * ((31 * ((31 * ((31 * ((31 * ((31 * ((31 * ((31 * a) + x1.toInt64)) + x4.toInt64)) + x7.toInt64)) + x10.toInt64)) + x13.toInt64)) + x16.toInt64)) + x19.toInt64)) + x22.toInt64)) + x25.toInt64)) + x28.toInt64)) + x31.toInt64)) + x34.toInt64)) + x37.toInt64)) + x40.toInt64)) + x43.toInt64)]) (s1 := s44) rfl ?_
  exact UPB.ret (r := some (.long ((31 * ((31 * ((31 * ((31 * ((31 * ((31 * ((31 * ((31 * ((31 * ((31 * ((31 * ((31 * ((31 * ((31 * ((31 * a) + x1.toInt64)) + x4.toInt64)) + x7.toInt64)) + x10.toInt64)) + x13.toInt64)) + x16.toInt64)) + x19.toInt64)) + x22.toInt64)) + x25.toInt64)) + x28.toInt64)) + x31.toInt64)) + x34.toInt64)) + x37.toInt64)) + x40.toInt64)) + x43.toInt64))) rfl ⟨⟨_, rfl⟩, h45⟩
theorem KL_digest_hd : ∀ n, (∀ (v1 : Int64) (u2 : Option Value) (v3 : Int32) (s : SG), KF s → UPB n m_X6_digest 4 [some (.ref 0), some (.long v1), u2, some (.int v3)] [] s KL) ∧ (∀ (v1 : Int64) (u2 : Option Value) (v3 : Int32) (s : SG), KF s → UPB n m_X6_digest 20 [some (.ref 0), some (.long v1), u2, some (.int v3)] [] s KL) ∧ (∀ (v1 : Int64) (u2 : Option Value) (v3 : Int32) (s : SG), KF s → UPB n m_X6_digest 40 [some (.ref 0), some (.long v1), u2, some (.int v3)] [] s KL) := by
  intro n
  induction n with
  | zero => exact ⟨fun _ _ _ _ _ => UPB.zero, fun _ _ _ _ _ => UPB.zero, fun _ _ _ _ _ => UPB.zero⟩
  | succ n ih =>
    obtain ⟨IH4, IH20, IH40⟩ := ih
    refine ⟨?_, ?_, ?_⟩
    · intro v1 u2 v3 s h
      refine UPB.hd 1 (i1 := 6) (L1 := [some (.ref 0), some (.long v1), u2, some (.int v3)]) (st1 := [.int 8, .int v3]) (s1 := s) rfl ?_
      refine UPB.ic rfl ?_ ?_
      · skip
        refine UPB.stp 2 (i1 := 20) (L1 := [some (.ref 0), some (.long v1), u2, some (.int 0)]) (st1 := []) (s1 := s) rfl ?_
        exact IH20 v1 u2 0 s h
      · skip
        refine UPB.stp 5 (i1 := 12) (L1 := [some (.ref 0), some (.long v1), u2, some (.int v3)]) (st1 := [.int v3, .ref 0, .long (31 * v1)]) (s1 := s) rfl ?_
        refine UPB.cI (M1 := m_X6_count) (as := [.ref 0, .int v3]) (rest := [.long (31 * v1)]) rfl rfl (KI_count h v3) (fun x1 s2 h3 => ?_)
        refine UPB.stp 5 (i1 := 4) (L1 := [some (.ref 0), some (.long ((31 * v1) + x1.toInt64)), u2, some (.int (v3 + 1))]) (st1 := []) (s1 := s2) rfl ?_
        exact IH4 ((31 * v1) + x1.toInt64) u2 (v3 + 1) s2 h3
    · intro v1 u2 v3 s h
      refine UPB.hd 1 (i1 := 22) (L1 := [some (.ref 0), some (.long v1), u2, some (.int v3)]) (st1 := [.int 3, .int v3]) (s1 := s) rfl ?_
      refine UPB.ic rfl ?_ ?_
      · skip
        refine UPB.stp 2 (i1 := 36) (L1 := [some (.ref 0), some (.long v1), u2, some (.int v3)]) (st1 := [.long v1, .ref 0]) (s1 := s) rfl ?_
        refine UPB.cL (M1 := m_X6_addMinutes) (as := [.ref 0, .long v1]) (rest := []) rfl rfl (KL_addMinutes h v1) (fun x4 s5 h6 => ?_)
        refine UPB.stp 3 (i1 := 40) (L1 := [some (.ref 0), some (.long x4), u2, some (.int 0)]) (st1 := []) (s1 := s5) rfl ?_
        exact IH40 x4 u2 0 s5 h6
      · skip
        refine UPB.stp 5 (i1 := 28) (L1 := [some (.ref 0), some (.long v1), u2, some (.int v3)]) (st1 := [.int v3, .ref 0, .long (31 * v1)]) (s1 := s) rfl ?_
        refine UPB.cI (M1 := m_X6_fault) (as := [.ref 0, .int v3]) (rest := [.long (31 * v1)]) rfl rfl (KI_fault h v3) (fun x7 s8 h9 => ?_)
        refine UPB.stp 5 (i1 := 20) (L1 := [some (.ref 0), some (.long ((31 * v1) + x7.toInt64)), u2, some (.int (v3 + 1))]) (st1 := []) (s1 := s8) rfl ?_
        exact IH20 ((31 * v1) + x7.toInt64) u2 (v3 + 1) s8 h9
    · intro v1 u2 v3 s h
      refine UPB.hd 3 (i1 := 44) (L1 := [some (.ref 0), some (.long v1), u2, some (.int v3)]) (st1 := [.int (s 10 0), .int v3]) (s1 := s) rfl ?_
      refine UPB.ic rfl ?_ ?_
      · skip
        refine UPB.stp 3 (i1 := 55) (L1 := [some (.ref 0), some (.long v1), u2, some (.int v3)]) (st1 := [.int 2, .long v1, .ref 0]) (s1 := s) rfl ?_
        refine UPB.cL (M1 := m_X6_addPlans) (as := [.ref 0, .long v1, .int 2]) (rest := []) rfl rfl (KL_addPlans h v1 2) (fun x10 s11 h12 => ?_)
        refine UPB.stp 4 (i1 := 60) (L1 := [some (.ref 0), some (.long x10), u2, some (.int v3)]) (st1 := [.int 10, .long x10, .ref 0]) (s1 := s11) rfl ?_
        refine UPB.cL (M1 := m_X6_addPlans) (as := [.ref 0, .long x10, .int 10]) (rest := []) rfl rfl (KL_addPlans h12 x10 10) (fun x13 s14 h15 => ?_)
        refine UPB.stp 3 (i1 := 64) (L1 := [some (.ref 0), some (.long x13), u2, some (.int v3)]) (st1 := [.long x13, .ref 0]) (s1 := s14) rfl ?_
        refine UPB.cL (M1 := m_X6_addWhole) (as := [.ref 0, .long x13]) (rest := []) rfl rfl (KL_addWhole h15 x13) (fun x16 s17 h18 => ?_)
        exact UPB.ret (r := some (.long x16)) rfl ⟨⟨_, rfl⟩, h18⟩
      · skip
        refine UPB.stp 3 (i1 := 48) (L1 := [some (.ref 0), some (.long v1), u2, some (.int v3)]) (st1 := [.int v3, .long v1, .ref 0]) (s1 := s) rfl ?_
        refine UPB.cL (M1 := m_X6_addRower) (as := [.ref 0, .long v1, .int v3]) (rest := []) rfl rfl (KL_addRower h v1 v3) (fun x19 s20 h21 => ?_)
        refine UPB.stp 3 (i1 := 40) (L1 := [some (.ref 0), some (.long x19), u2, some (.int (v3 + 1))]) (st1 := []) (s1 := s20) rfl ?_
        exact IH40 x19 u2 (v3 + 1) s20 h21
theorem KL_digest {s : SG} (h : KF s)  : UP m_X6_digest 0 (m_ent 4 [.ref 0]) [] s KL := by
  refine UP.of_b (fun n => ?_)
  obtain ⟨IH4, IH20, IH40⟩ := KL_digest_hd n
  refine UPB.stp 4 (i1 := 4) (L1 := [some (.ref 0), some (.long 17), none, some (.int 0)]) (st1 := []) (s1 := s) rfl ?_
  exact IH4 17 none 0 s h
end
section
/-! THE INVARIANT OF ALL CALLS: ranges (J1), and all that is kept alike (KF) -/
def frzF (f : AF) : Bool := match f with
  | .inl _ => true
  | .inr (_, _, fz) => fz
def frzAll (c : AC) : Bool := match c with
  | .inl (_, _, _, _, fz) => fz
  | .inr (.inr (_, fs)) => fs.all frzF
  | _ => false
theorem cI_cong {h h1 : MH} {a : Nat} (e : h1[a]? = h[a]?) (j : Nat) : cI h1 a j = cI h a j := by unfold cI; rw [e]
theorem cI_fz {H : AH} {h h1 : MH} {ci k a : Nat} {lo hi : Int} (f : fH H h h1) (g : gH H h) (g1 : gH H h1) (hf : a_fd H ci k a = some (.inr (lo, hi, true))) : cI h1 a k = cI h a k := by
  obtain ⟨fs, vs, v, hc, hfk, hx, -, hv, -, -⟩ := fd_sp g hf
  obtain ⟨fs2, ws, w, hc2, -, hy, -, hw, -, -⟩ := fd_sp g1 hf
  obtain ⟨us, e1, e2⟩ := f a _ _ _ hc hx hy ci vs rfl
  cases e1
  have e3 := e2 k _ hfk (fun l u q => by cases q)
  unfold cI
  rw [hx, hy]
  dsimp only
  rw [e3]
theorem cI_all {H : AH} {h h1 : MH} {a : Nat} {c : AC} (f : fH H h h1) (g : gH H h) (g1 : gH H h1) (hc : H[a]? = some c) (hz : frzAll c = true) (j : Nat) : cI h1 a j = cI h a j := by
  rcases c with ⟨t, n, lo, hi, fz⟩ | ⟨t, rs⟩ | ⟨ci, fs⟩
  · have hz : fz = true := hz
    subst hz
    exact cI_cong (cell_fz f g g1 hc) j
  · cases hz
  · obtain ⟨x, hx, vs, e, hl, hb⟩ := g.2 a _ hc
    obtain ⟨y, hy, ws, e', hl', hb'⟩ := g1.2 a _ hc
    subst e
    subst e'
    by_cases hj : j < fs.length
    · have hfj : fs[j]? = some fs[j] := List.getElem?_eq_getElem hj
      have hz := List.all_eq_true.mp hz _ (List.getElem_mem hj)
      obtain ⟨v, hv, gv⟩ := hb j _ hfj
      obtain ⟨w, hw, gw⟩ := hb' j _ hfj
      cases hq : fs[j] with
      | inl r =>
        rw [hq] at gv gw
        unfold cI
        rw [hx, hy]
        dsimp only
        rw [hv, hw]
        have ev : v = .ref r := gv
        have ew : w = .ref r := gw
        rw [ev, ew]
      | inr p =>
        obtain ⟨lo, hi, fz⟩ := p
        rw [hq] at hz hfj
        have hz : fz = true := hz
        subst hz
        exact cI_fz (ci := ci) (lo := lo) (hi := hi) f g g1 (by
          unfold a_fd
          rw [hc]
          dsimp only
          rw [if_pos rfl, hfj])
    · unfold cI
      rw [hx, hy]
      dsimp only
      rw [List.getElem?_eq_none (by omega), List.getElem?_eq_none (by omega)]
def frzW (H : AH) (w : Nat × Nat × Option Nat) : Bool := (List.range (w.2.1 + 1)).all (fun a => Nat.blt a w.1 || (match w.2.2 with
  | none => (match H[a]? with | some c => frzAll c | none => false)
  | some k => (match H[a]? with | some (.inr (.inr (_, fs))) => (match fs[k]? with | some (.inr (_, _, true)) => true | _ => false) | _ => false)))
theorem ag_fz {H : AH} {h h1 : MH} (D : LW) (hD : D.all (frzW H) = true) (f : fH H h h1) (g : gH H h) (g1 : gH H h1) : Ag D (cI h) (cI h1) := fun a j q => by
  obtain ⟨⟨lo, hi, p⟩, w1, w2⟩ := List.any_eq_true.mp q
  obtain ⟨a1, c⟩ := b_and w2
  obtain ⟨a2, e⟩ := b_and c
  have a1 : lo ≤ a := Nat.ble_eq.mp a1
  have a2 : a ≤ hi := Nat.ble_eq.mp a2
  have k := List.all_eq_true.mp (List.all_eq_true.mp hD _ w1) a (List.mem_range.mpr (by show a < hi + 1; omega))
  rcases (Bool.or_eq_true _ _).mp k with k | k
  · have k : a < lo := by simpa [Nat.blt_eq] using k
    omega
  · cases p with
    | none =>
      have k : (match H[a]? with | some c => frzAll c | none => false) = true := k
      cases hc : H[a]? with
      | none => rw [hc] at k; cases k
      | some c =>
        rw [hc] at k
        exact cI_all f g g1 hc k j
    | some m =>
      have e : m = j := by simpa using e
      subst e
      have k : (match H[a]? with | some (.inr (.inr (_, fs))) => (match fs[m]? with | some (.inr (_, _, true)) => true | _ => false) | _ => false) = true := k
      split at k
      · rename_i ci fs hc
        split at k
        · rename_i lo2 hi2 hf
          exact cI_fz (ci := ci) (lo := lo2) (hi := hi2) f g g1 (by
            unfold a_fd
            rw [hc]
            dsimp only
            rw [if_pos rfl, hf])
        · cases k
      · cases k
theorem ag_from {h h1 : MH} (D : LW) (hD : D.all (fun w => Nat.ble 123 w.1) = true) (s : sameFrom 123 h h1) : Ag D (cI h) (cI h1) := fun a j q => by
  obtain ⟨w, w1, w2⟩ := List.any_eq_true.mp q
  obtain ⟨a1, -⟩ := b_and w2
  have k := Nat.ble_eq.mp (List.all_eq_true.mp hD _ w1)
  have a1 := Nat.ble_eq.mp a1
  exact cI_cong (s a (by omega)) j
theorem ag_to {h h1 : MH} (D : LW) (hD : D.all (fun w => Nat.blt w.2.1 123) = true) (s : sameTo 123 h h1) : Ag D (cI h) (cI h1) := fun a j q => by
  obtain ⟨w, w1, w2⟩ := List.any_eq_true.mp q
  obtain ⟨-, c⟩ := b_and w2
  obtain ⟨a2, -⟩ := b_and c
  have k : w.2.1 < 123 := by simpa [Nat.blt_eq] using List.all_eq_true.mp hD _ w1
  have a2 := Nat.ble_eq.mp a2
  exact cI_cong (s a (by omega)) j
theorem Ag.app {D1 D2 : LW} {s s1 : SG} (a : Ag D1 s s1) (b : Ag D2 s s1) : Ag (D1 ++ D2) s s1 := fun x j q => by
  have q : (D1 ++ D2).any (fun w => Nat.ble w.1 x && (Nat.ble x w.2.1 && (match w.2.2 with | none => true | some k => k == j))) = true := q
  rw [List.any_append] at q
  rcases (Bool.or_eq_true _ _).mp q with q | q
  · exact a x j q
  · exact b x j q
def DFc : LW := [(0, 0, some 4), (0, 0, some 12), (0, 0, some 13), (2, 2, some 3), (3, 5, none), (6, 6, some 2), (7, 8, none), (10, 10, some 0), (10, 10, some 5), (10, 10, some 6), (11, 14, none), (15, 15, some 8), (16, 20, none), (22, 47, none), (96, 96, none), (109, 114, none), (115, 122, none)]
def DGm : LW := [(123, 123, some 9), (123, 123, some 10), (123, 123, some 11), (123, 123, some 37), (123, 123, some 46), (124, 125, none), (130, 132, none), (145, 146, none), (148, 151, none)]
theorem fz_M : DGm.all (frzW HM) = true := by decide +kernel
def JK (h : MH) : Prop := J1 h ∧ KF (cI h)
theorem JK.c (h : MH) (j : JK h) : gH HCs h := j.1.1
theorem JK.m (h : MH) (j : JK h) : gH HMs h := j.1.2.1
theorem JK_M : Jst JK HM := fun h h1 j g1 f => ⟨J1_M h h1 j.1 g1 f, j.2.ag (((ag_to DFc rfl (to_of any_M f (gH.eq eq_HMr j.1.2.1) g1)).app (ag_fz DGm fz_M f (gH.eq eq_HMr j.1.2.1) g1)).sub rfl)⟩
theorem RP.uq {M : MM} {y : Nat} {L : ML} {h : MH} {P : Option Value → MH → Prop} {Q : Option Value → SG → Prop} (k : RP M 0 L [] h P) (hy : m_tab[y]? = some M) (my : y ∈ msU) (g : gH HU h) (u : UP M 0 L [] (cI h) Q) : RP M 0 L [] h (fun r h1 => P r h1 ∧ Q r (cI h1)) := by
  obtain ⟨r, h1, ⟨n, hn⟩, p⟩ := k
  obtain ⟨a, -⟩ := usim n y M 0 L L [] h r h1 my hy g (lqL.rf _) hn
  exact ⟨r, h1, ⟨n, hn⟩, p, u n _ a⟩
section PK
variable {y1 y2 : Nat} {M1 M2 : MM} {as : List Value} {h : MH}
/-- a pair of calls, both told as functions -/
theorem up_q {T : Option Value → Option Value → Prop} {c : Int32 × SG} {m : SG → Int32 × SG} (p : PairOK J1 T y1 y2 as h) (hJ : JK h) (e1 : m_tab[y1]? = some M1) (e2 : m_tab[y2]? = some M2) (m1 : y1 ∈ msU) (m2 : y2 ∈ msU) (kx : UP M1 0 (m_ent (mx M1) (.ref 0 :: as)) [] (cI h) (Qb c)) (km : UP M2 0 (m_ent (mx M2) (.ref 123 :: as)) [] c.2 (Qb (m c.2))) (q : QK c m) : PairOK JK TE y1 y2 as h := by
  refine PairOK.up (K := KF) (T' := TE) (QX := Qb c) (QY := fun _ _ => Qb (m c.2)) p hJ.1 e1 e2 m1 m2 kx (fun r s1 a => by rw [a.2]; exact km) (fun r s1 r2 h2 a b _ _ => ⟨⟨c.1, a.1, ?_⟩, ?_⟩)
  · rw [b.1, q.2]
  · rw [b.2]; exact q.1
/-- and only what is kept -/
theorem up_k {T : Option Value → Option Value → Prop} {c : Int32 × SG} {m : SG → Int32 × SG} (p : PairOK J1 T y1 y2 as h) (hJ : JK h) (e1 : m_tab[y1]? = some M1) (e2 : m_tab[y2]? = some M2) (m1 : y1 ∈ msU) (m2 : y2 ∈ msU) (kx : UP M1 0 (m_ent (mx M1) (.ref 0 :: as)) [] (cI h) (Qb c)) (km : UP M2 0 (m_ent (mx M2) (.ref 123 :: as)) [] c.2 (Qb (m c.2))) (q : KF (m c.2).2) : PairOK JK T y1 y2 as h := by
  refine PairOK.up (K := KF) (T' := T) (QX := Qb c) (QY := fun _ _ => Qb (m c.2)) p hJ.1 e1 e2 m1 m2 kx (fun r s1 a => by rw [a.2]; exact km) (fun r s1 r2 h2 a b t _ => ⟨t, ?_⟩)
  rw [b.2]; exact q
/-- the class told by KF alone, the model by what it leaves -/
theorem up_i (hJ : JK h) (e1 : m_tab[y1]? = some M1) (e2 : m_tab[y2]? = some M2) (b1 : Nat.ble (entL (.ref 0 :: as)).length (mx M1) = true) (b2 : Nat.ble (entL (.ref 123 :: as)).length (mx M2) = true) (m1 : y1 ∈ msU) (kx : SPi HC M1 (.ref 0 :: as) h) (ux : UP M1 0 (m_ent (mx M1) (.ref 0 :: as)) [] (cI h) KI) (km : ∀ h1, JK h1 → SPi HM M2 (.ref 123 :: as) h1) : PairOK JK TA y1 y2 as h := by
  refine pair_rp (PX := fun r h1 => (∃ v, r = some (.int v)) ∧ JK h1) hJ.1.1 e1 e2 b1 b2 ((RP.uq kx e1 m1 (hu_of hJ.1.1 hJ.1.2.1) ux).mono (fun r h1 q => ⟨q.1.1, J1_C h h1 hJ.1 q.1.2.1 q.1.2.2, q.2.2⟩)) (fun r h1 q => q.2.1.2.1) (fun r h1 q => ?_)
  exact (km h1 q.2).mono (fun r2 h2 w => ⟨⟨q.1, w.1⟩, JK_M h1 h2 q.2 w.2.1 w.2.2⟩)
theorem up_l (hJ : JK h) (e1 : m_tab[y1]? = some M1) (e2 : m_tab[y2]? = some M2) (b1 : Nat.ble (entL (.ref 0 :: as)).length (mx M1) = true) (b2 : Nat.ble (entL (.ref 123 :: as)).length (mx M2) = true) (m1 : y1 ∈ msU) (kx : SPl HC M1 (.ref 0 :: as) h) (ux : UP M1 0 (m_ent (mx M1) (.ref 0 :: as)) [] (cI h) KL) (km : ∀ h1, JK h1 → SPl HM M2 (.ref 123 :: as) h1) : PairOK JK TL y1 y2 as h := by
  refine pair_rp (PX := fun r h1 => (∃ v, r = some (.long v)) ∧ JK h1) hJ.1.1 e1 e2 b1 b2 ((RP.uq kx e1 m1 (hu_of hJ.1.1 hJ.1.2.1) ux).mono (fun r h1 q => ⟨q.1.1, J1_C h h1 hJ.1 q.1.2.1 q.1.2.2, q.2.2⟩)) (fun r h1 q => q.2.1.2.1) (fun r h1 q => ?_)
  exact (km h1 q.2).mono (fun r2 h2 w => ⟨⟨q.1, w.1⟩, JK_M h1 h2 q.2 w.2.1 w.2.2⟩)
end PK
end
section
/-! every pair of calls under JK (printed by wip/u/mk_pk.py) -/
theorem kbX {x y : Int32 × SG} {b : Bool} (h1 : KX x.2) (h2 : KX y.2) : KX (bif b then x else y).2 := by
  cases b
  · exact h2
  · exact h1
theorem bad_type {s : SG} {t b : Int32} (hb : bl t 3 = false) : F_type s t b = ((-2), s) := by
  dsimp only [F_type]
  rw [isX_e, hb, lF, kT]
theorem bad_wipe {s : SG} {t : Int32} (hb : bl t 3 = false) : F_wipe s t = ((-2), s) := by
  dsimp only [F_wipe]
  rw [isX_n, hb, kF]
theorem bad_undo {s : SG} {t : Int32} (hb : bl t 3 = false) : F_undo s t = ((-2), s) := by
  dsimp only [F_undo]
  rw [isX_n, hb, kF]
theorem kx_type_0 {s : SG} (h : KX s) (b : Int32) : KX (F_ctype_0 s b).2 := by
  dsimp only [F_ctype_0]
  exact kbX h (kbX (kbX (KX.mark _) h) h)
theorem kx_type_1 {s : SG} (h : KX s) (b : Int32) : KX (F_ctype_1 s b).2 := by
  dsimp only [F_ctype_1]
  exact kbX h (kbX (kbX (KX.mark _) h) h)
theorem kx_type_2 {s : SG} (h : KX s) (b : Int32) : KX (F_ctype_2 s b).2 := by
  dsimp only [F_ctype_2]
  exact kbX h (kbX (kbX (KX.mark _) h) h)
theorem k_type {s : SG} (h : KF s) (t : Int32) (b : Int32) : KF (F_type (F_ctype s t b).2 t b).2 := by
  unfold F_ctype
  by_cases e0 : t = 0
  · rw [if_pos e0, e0]
    have K := kty_0 b h.1.1 h.1.2.1
    have f1 := fr_ctype_0 s b
    have x := kx_type_0 h.2 b
    generalize (F_ctype_0 s b).2 = c at *
    have f2 := fr_type c 0 b
    exact ⟨⟨K.1, K.2, h.1.2.2.1.ag ((f1.ag DE rfl).tr (f2.ag DE rfl)), h.1.2.2.2.1.ag ((f1.ag DS rfl).tr (f2.ag DS rfl)), h.1.2.2.2.2.ag ((f1.ag DH rfl).tr (f2.ag DH rfl))⟩, x.ag (f2.ag DX rfl)⟩
  by_cases e1 : t = 1
  · rw [if_neg e0, if_pos e1, e1]
    have K := kty_1 b h.1.1 h.1.2.1
    have f1 := fr_ctype_1 s b
    have x := kx_type_1 h.2 b
    generalize (F_ctype_1 s b).2 = c at *
    have f2 := fr_type c 1 b
    exact ⟨⟨K.1, K.2, h.1.2.2.1.ag ((f1.ag DE rfl).tr (f2.ag DE rfl)), h.1.2.2.2.1.ag ((f1.ag DS rfl).tr (f2.ag DS rfl)), h.1.2.2.2.2.ag ((f1.ag DH rfl).tr (f2.ag DH rfl))⟩, x.ag (f2.ag DX rfl)⟩
  by_cases e2 : t = 2
  · rw [if_neg e0, if_neg e1, if_pos e2, e2]
    have K := kty_2 b h.1.1 h.1.2.1
    have f1 := fr_ctype_2 s b
    have x := kx_type_2 h.2 b
    generalize (F_ctype_2 s b).2 = c at *
    have f2 := fr_type c 2 b
    exact ⟨⟨K.1, K.2, h.1.2.2.1.ag ((f1.ag DE rfl).tr (f2.ag DE rfl)), h.1.2.2.2.1.ag ((f1.ag DS rfl).tr (f2.ag DS rfl)), h.1.2.2.2.2.ag ((f1.ag DH rfl).tr (f2.ag DH rfl))⟩, x.ag (f2.ag DX rfl)⟩
  rw [if_neg e0, if_neg e1, if_neg e2]
  have hb : bl t 3 = false := by
    cases q : bl t 3 with
    | false => rfl
    | true =>
      rcases bl_3.mp q with w | w | w
      · exact absurd w e0
      · exact absurd w e1
      · exact absurd w e2
  dsimp only
  rw [bad_type hb]
  exact h
theorem kx_wipe_0 {s : SG} (h : KX s) : KX (F_cwipe_0 s).2 := by
  dsimp only [F_cwipe_0]
  exact kbX (KX.mark _) h
theorem kx_wipe_1 {s : SG} (h : KX s) : KX (F_cwipe_1 s).2 := by
  dsimp only [F_cwipe_1]
  exact kbX (KX.mark _) h
theorem kx_wipe_2 {s : SG} (h : KX s) : KX (F_cwipe_2 s).2 := by
  dsimp only [F_cwipe_2]
  exact kbX (KX.mark _) h
theorem k_wipe {s : SG} (h : KF s) (t : Int32) : KF (F_wipe (F_cwipe s t).2 t).2 := by
  unfold F_cwipe
  by_cases e0 : t = 0
  · rw [if_pos e0, e0]
    have K := kwi_0 h.1.1 h.1.2.1
    have f1 := fr_cwipe_0 s
    have x := kx_wipe_0 h.2
    generalize (F_cwipe_0 s).2 = c at *
    have f2 := fr_wipe c 0
    exact ⟨⟨K.1, K.2, h.1.2.2.1.ag ((f1.ag DE rfl).tr (f2.ag DE rfl)), h.1.2.2.2.1.ag ((f1.ag DS rfl).tr (f2.ag DS rfl)), h.1.2.2.2.2.ag ((f1.ag DH rfl).tr (f2.ag DH rfl))⟩, x.ag (f2.ag DX rfl)⟩
  by_cases e1 : t = 1
  · rw [if_neg e0, if_pos e1, e1]
    have K := kwi_1 h.1.1 h.1.2.1
    have f1 := fr_cwipe_1 s
    have x := kx_wipe_1 h.2
    generalize (F_cwipe_1 s).2 = c at *
    have f2 := fr_wipe c 1
    exact ⟨⟨K.1, K.2, h.1.2.2.1.ag ((f1.ag DE rfl).tr (f2.ag DE rfl)), h.1.2.2.2.1.ag ((f1.ag DS rfl).tr (f2.ag DS rfl)), h.1.2.2.2.2.ag ((f1.ag DH rfl).tr (f2.ag DH rfl))⟩, x.ag (f2.ag DX rfl)⟩
  by_cases e2 : t = 2
  · rw [if_neg e0, if_neg e1, if_pos e2, e2]
    have K := kwi_2 h.1.1 h.1.2.1
    have f1 := fr_cwipe_2 s
    have x := kx_wipe_2 h.2
    generalize (F_cwipe_2 s).2 = c at *
    have f2 := fr_wipe c 2
    exact ⟨⟨K.1, K.2, h.1.2.2.1.ag ((f1.ag DE rfl).tr (f2.ag DE rfl)), h.1.2.2.2.1.ag ((f1.ag DS rfl).tr (f2.ag DS rfl)), h.1.2.2.2.2.ag ((f1.ag DH rfl).tr (f2.ag DH rfl))⟩, x.ag (f2.ag DX rfl)⟩
  rw [if_neg e0, if_neg e1, if_neg e2]
  have hb : bl t 3 = false := by
    cases q : bl t 3 with
    | false => rfl
    | true =>
      rcases bl_3.mp q with w | w | w
      · exact absurd w e0
      · exact absurd w e1
      · exact absurd w e2
  dsimp only
  rw [bad_wipe hb]
  exact h
theorem kx_undo_0 {s : SG} (h : KX s) : KX (F_cundo_0 s).2 := by
  dsimp only [F_cundo_0]
  exact kbX (kbX (KX.mark _) h) h
theorem kx_undo_1 {s : SG} (h : KX s) : KX (F_cundo_1 s).2 := by
  dsimp only [F_cundo_1]
  exact kbX (kbX (KX.mark _) h) h
theorem kx_undo_2 {s : SG} (h : KX s) : KX (F_cundo_2 s).2 := by
  dsimp only [F_cundo_2]
  exact kbX (kbX (KX.mark _) h) h
theorem k_undo {s : SG} (h : KF s) (t : Int32) : KF (F_undo (F_cundo s t).2 t).2 := by
  unfold F_cundo
  by_cases e0 : t = 0
  · rw [if_pos e0, e0]
    have K := kun_0 h.1.1 h.1.2.1
    have f1 := fr_cundo_0 s
    have x := kx_undo_0 h.2
    generalize (F_cundo_0 s).2 = c at *
    have f2 := fr_undo c 0
    exact ⟨⟨K.1, K.2, h.1.2.2.1.ag ((f1.ag DE rfl).tr (f2.ag DE rfl)), h.1.2.2.2.1.ag ((f1.ag DS rfl).tr (f2.ag DS rfl)), h.1.2.2.2.2.ag ((f1.ag DH rfl).tr (f2.ag DH rfl))⟩, x.ag (f2.ag DX rfl)⟩
  by_cases e1 : t = 1
  · rw [if_neg e0, if_pos e1, e1]
    have K := kun_1 h.1.1 h.1.2.1
    have f1 := fr_cundo_1 s
    have x := kx_undo_1 h.2
    generalize (F_cundo_1 s).2 = c at *
    have f2 := fr_undo c 1
    exact ⟨⟨K.1, K.2, h.1.2.2.1.ag ((f1.ag DE rfl).tr (f2.ag DE rfl)), h.1.2.2.2.1.ag ((f1.ag DS rfl).tr (f2.ag DS rfl)), h.1.2.2.2.2.ag ((f1.ag DH rfl).tr (f2.ag DH rfl))⟩, x.ag (f2.ag DX rfl)⟩
  by_cases e2 : t = 2
  · rw [if_neg e0, if_neg e1, if_pos e2, e2]
    have K := kun_2 h.1.1 h.1.2.1
    have f1 := fr_cundo_2 s
    have x := kx_undo_2 h.2
    generalize (F_cundo_2 s).2 = c at *
    have f2 := fr_undo c 2
    exact ⟨⟨K.1, K.2, h.1.2.2.1.ag ((f1.ag DE rfl).tr (f2.ag DE rfl)), h.1.2.2.2.1.ag ((f1.ag DS rfl).tr (f2.ag DS rfl)), h.1.2.2.2.2.ag ((f1.ag DH rfl).tr (f2.ag DH rfl))⟩, x.ag (f2.ag DX rfl)⟩
  rw [if_neg e0, if_neg e1, if_neg e2]
  have hb : bl t 3 = false := by
    cases q : bl t 3 with
    | false => rfl
    | true =>
      rcases bl_3.mp q with w | w | w
      · exact absurd w e0
      · exact absurd w e1
      · exact absurd w e2
  dsimp only
  rw [bad_undo hb]
  exact h
theorem pk_type {h : MH} (hJ : JK h) (a : Int32) (b : Int32) (p : PairOK J1 TE 31 101 [.int a, .int b] h) : PairOK JK TE 31 101 [.int a, .int b] h := up_k (M1 := m_X6_type) (M2 := m_X7_type) (c := F_ctype (cI h) a b) (m := fun y => F_type y a b) p hJ rfl rfl (by decide) (by decide) (ux_ctype _ a b) (ux_type _ a b) (k_type hJ.2 a b)
theorem pk_wipe {h : MH} (hJ : JK h) (a : Int32) (p : PairOK J1 TE 32 102 [.int a] h) : PairOK JK TE 32 102 [.int a] h := up_k (M1 := m_X6_wipe) (M2 := m_X7_wipe) (c := F_cwipe (cI h) a) (m := fun y => F_wipe y a) p hJ rfl rfl (by decide) (by decide) (ux_cwipe _ a) (ux_wipe _ a) (k_wipe hJ.2 a)
theorem pk_undo {h : MH} (hJ : JK h) (a : Int32) (p : PairOK J1 TE 33 103 [.int a] h) : PairOK JK TE 33 103 [.int a] h := up_k (M1 := m_X6_undo) (M2 := m_X7_undo) (c := F_cundo (cI h) a) (m := fun y => F_undo y a) p hJ rfl rfl (by decide) (by decide) (ux_cundo _ a) (ux_undo _ a) (k_undo hJ.2 a)
theorem pk_fault {h : MH} (hJ : JK h) (a : Int32) (p : PairOK J1 TA 34 112 [.int a] h) : PairOK JK TE 34 112 [.int a] h := up_q (M1 := m_X6_fault) (M2 := m_X7_fault) (c := (F_cfault (cI h) a, cI h)) (m := fun y => F_fault y a) p hJ rfl rfl (by decide) (by decide) (ux_cfault _ a) (ux_fault _ a) (⟨hJ.2.ag ((fr_fault _ a).ag DF rfl), q_fault hJ.2.1.1.1 a⟩)
theorem pk_rower {h : MH} (hJ : JK h) (a : Int32) (b : Int32) (p : PairOK J1 TA 35 115 [.int a, .int b] h) : PairOK JK TE 35 115 [.int a, .int b] h := up_q (M1 := m_X6_rower) (M2 := m_X7_rower) (c := (F_crower (cI h) a b, cI h)) (m := fun y => F_rower y a b) p hJ rfl rfl (by decide) (by decide) (ux_crower _ a b) (ux_rower _ a b) (⟨hJ.2.ag ((fr_rower _ a b).ag DF rfl), q_rower hJ.2.1.1.1 hJ.2.1.2.1 a b⟩)
theorem pk_call {h : MH} (hJ : JK h) (a : Int32) (b : Int32) (p : PairOK J1 TA 36 117 [.int a, .int b] h) : PairOK JK TE 36 117 [.int a, .int b] h := up_q (M1 := m_X6_call) (M2 := m_X7_call) (c := (F_ccall (cI h) a b, cI h)) (m := fun y => F_call y a b) p hJ rfl rfl (by decide) (by decide) (ux_ccall _ a b) (ux_call _ a b) (⟨hJ.2.ag ((fr_call _ a b).ag DF rfl), q_call hJ.2.1.1.1 hJ.2.1.2.1 a b⟩)
theorem pk_count {h : MH} (hJ : JK h) (a : Int32) (p : PairOK J1 TA 76 181 [.int a] h) : PairOK JK TE 76 181 [.int a] h := up_q (M1 := m_X6_count) (M2 := m_X7_count) (c := (F_ccount (cI h) a, cI h)) (m := fun y => F_count y a) p hJ rfl rfl (by decide) (by decide) (ux_ccount _ a) (ux_count _ a) (⟨hJ.2.ag ((fr_count _ a).ag DF rfl), q_count hJ.2 a⟩)
theorem pk_river {h : MH} (hJ : JK h) (a : Int32) (b : Int32) (p : PairOK J1 TA 37 118 [.int a, .int b] h) : PairOK JK TA 37 118 [.int a, .int b] h := up_k (M1 := m_X6_river) (M2 := m_X7_river) (c := F_criver (cI h) a b) (m := fun y => F_river y a b) p hJ rfl rfl (by decide) (by decide) (ux_criver _ a b) (ux_river _ a b) (k_river hJ.2 a b)
theorem pk_event {h : MH} (hJ : JK h) (a : Int32) (b : Int32) (c : Int32) (p : PairOK J1 TA 40 119 [.int a, .int b, .int c] h) : PairOK JK TE 40 119 [.int a, .int b, .int c] h := up_q (M1 := m_X6_event) (M2 := m_X7_event) (c := F_cevent (cI h) a b c) (m := fun y => F_event y a b c) p hJ rfl rfl (by decide) (by decide) (ux_cevent _ a b c) (ux_event _ a b c) (q_event hJ.2 a b c)
theorem pk_back {h : MH} (hJ : JK h) (p : PairOK J1 TA 41 120 [] h) : PairOK JK TE 41 120 [] h := up_q (M1 := m_X6_back) (M2 := m_X7_back) (c := F_cback (cI h)) (m := fun y => F_back y) p hJ rfl rfl (by decide) (by decide) (ux_cback _) (ux_back _) (q_back hJ.2)
theorem pk_at {h : MH} (hJ : JK h) (a : Int32) (b : Int32) (p : PairOK J1 TA 43 130 [.int a, .int b] h) : PairOK JK TE 43 130 [.int a, .int b] h := up_q (M1 := m_X6_at) (M2 := m_X7_at) (c := F_cat (cI h) a b) (m := fun y => F_at y a b) p hJ rfl rfl (by decide) (by decide) (ux_cat _ a b) (ux_at _ a b) (q_at hJ.2 a b)
theorem pk_pulls {h : MH} (hJ : JK h) (a : Int32) (b : Int32) (p : PairOK J1 TA 44 132 [.int a, .int b] h) : PairOK JK TE 44 132 [.int a, .int b] h := up_q (M1 := m_X6_pulls) (M2 := m_X7_pulls) (c := F_cpulls (cI h) a b) (m := fun y => F_pulls y a b) p hJ rfl rfl (by decide) (by decide) (ux_cpulls _ a b) (ux_pulls _ a b) (q_pulls hJ.2 a b)
theorem pk_done {h : MH} (hJ : JK h) (a : Int32) (b : Int32) (p : PairOK J1 TA 45 134 [.int a, .int b] h) : PairOK JK TE 45 134 [.int a, .int b] h := up_q (M1 := m_X6_done) (M2 := m_X7_done) (c := F_cdone (cI h) a b) (m := fun y => F_done y a b) p hJ rfl rfl (by decide) (by decide) (ux_cdone _ a b) (ux_done _ a b) (q_done hJ.2 a b)
theorem pk_there {h : MH} (hJ : JK h) (p : PairOK J1 TA 46 136 [] h) : PairOK JK TE 46 136 [] h := up_q (M1 := m_X6_there) (M2 := m_X7_there) (c := F_cthere (cI h)) (m := fun y => F_there y) p hJ rfl rfl (by decide) (by decide) (ux_cthere _) (ux_there _) (q_there hJ.2 )
theorem pk_grounded {h : MH} (hJ : JK h) (a : Int32) (p : PairOK J1 TA 47 138 [.int a] h) : PairOK JK TE 47 138 [.int a] h := up_q (M1 := m_X6_grounded) (M2 := m_X7_grounded) (c := F_cgrounded (cI h) a) (m := fun y => F_grounded y a) p hJ rfl rfl (by decide) (by decide) (ux_cgrounded _ a) (ux_grounded _ a) (q_grounded hJ.2 a)
theorem pk_stray {h : MH} (hJ : JK h) (a : Int32) (p : PairOK J1 TA 48 141 [.int a] h) : PairOK JK TE 48 141 [.int a] h := up_q (M1 := m_X6_stray) (M2 := m_X7_stray) (c := F_cstray (cI h) a) (m := fun y => F_stray y a) p hJ rfl rfl (by decide) (by decide) (ux_cstray _ a) (ux_stray _ a) (q_stray hJ.2 a)
theorem pk_idle {h : MH} (hJ : JK h) (p : PairOK J1 TA 50 145 [] h) : PairOK JK TE 50 145 [] h := up_q (M1 := m_X6_idle) (M2 := m_X7_idle) (c := F_cidle (cI h)) (m := fun y => F_idle y) p hJ rfl rfl (by decide) (by decide) (ux_cidle _) (ux_idle _) (q_idle hJ.2 )
theorem pk_best {h : MH} (hJ : JK h) (p : PairOK J1 TA 49 143 [] h) : PairOK JK TA 49 143 [] h := up_k (M1 := m_X6_best) (M2 := m_X7_best) (c := F_cbest (cI h)) (m := fun y => F_best y) p hJ rfl rfl (by decide) (by decide) (ux_cbest _) (ux_best _) (k_best hJ.2)
theorem pk_swap {h : MH} (hJ : JK h) (a : Int32) (p : PairOK J1 TA 51 147 [.int a] h) : PairOK JK TA 51 147 [.int a] h := up_k (M1 := m_X6_swap) (M2 := m_X7_swap) (c := F_cswap (cI h) a) (m := fun y => F_swap y a) p hJ rfl rfl (by decide) (by decide) (ux_cswap _ a) (ux_swap _ a) ((kf_swap hJ.2 a).ag ((fr_swap _ a).ag DF rfl))
theorem pk_steer {h : MH} (hJ : JK h) (a : Int32) (b : Int32) (p : PairOK J1 TA 53 149 [.int a, .int b] h) : PairOK JK TA 53 149 [.int a, .int b] h := up_k (M1 := m_X6_steer) (M2 := m_X7_steer) (c := F_csteer (cI h) a b) (m := fun y => F_steer y a b) p hJ rfl rfl (by decide) (by decide) (ux_csteer _ a b) (ux_steer _ a b) ((kf_steer hJ.2 a b).ag ((fr_steer _ a b).ag DF rfl))
theorem pk_stroke {h : MH} (hJ : JK h) (a : Int32) (b : Int32) (p : PairOK J1 TA 54 151 [.int a, .int b] h) : PairOK JK TA 54 151 [.int a, .int b] h := up_k (M1 := m_X6_stroke) (M2 := m_X7_stroke) (c := F_cstroke (cI h) a b) (m := fun y => F_stroke y a b) p hJ rfl rfl (by decide) (by decide) (ux_cstroke _ a b) (ux_stroke _ a b) ((kf_stroke hJ.2 a b).ag ((fr_stroke _ a b).ag DF rfl))
theorem pk_never {h : MH} (hJ : JK h) (p : PairOK J1 TA 60 160 [] h) : PairOK JK TA 60 160 [] h := up_k (M1 := m_X6_never) (M2 := m_X7_never) (c := F_cnever (cI h)) (m := fun y => F_never y) p hJ rfl rfl (by decide) (by decide) (ux_cnever _) (ux_never _) ((kf_never hJ.2 ).ag ((fr_never _ ).ag DF rfl))
theorem pk_was {h : MH} (hJ : JK h) (a : Int32) (b : Int32) (p : PairOK J1 TA 61 163 [.int a, .int b] h) : PairOK JK TA 61 163 [.int a, .int b] h := up_k (M1 := m_X6_was) (M2 := m_X7_was) (c := F_cwas (cI h) a b) (m := fun y => F_was y a b) p hJ rfl rfl (by decide) (by decide) (ux_cwas _ a b) (ux_was _ a b) ((kf_was hJ.2 a b).ag ((fr_was _ a b).ag DF rfl))
theorem pk_ask {h : MH} (hJ : JK h) (a : Int32) (p : PairOK J1 TA 64 165 [.int a] h) : PairOK JK TA 64 165 [.int a] h := up_k (M1 := m_X6_ask) (M2 := m_X7_ask) (c := F_cask (cI h) a) (m := fun y => F_ask y a) p hJ rfl rfl (by decide) (by decide) (ux_cask _ a) (ux_ask _ a) ((kf_ask hJ.2 a).ag ((fr_ask _ a).ag DF rfl))
theorem pk_years {h : MH} (hJ : JK h) (a : Int32) (b : Int32) (c : Int32) (p : PairOK J1 TA 69 169 [.int a, .int b, .int c] h) : PairOK JK TA 69 169 [.int a, .int b, .int c] h := up_k (M1 := m_X6_years) (M2 := m_X7_years) (c := F_cyears (cI h) a b c) (m := fun y => F_years y a b c) p hJ rfl rfl (by decide) (by decide) (ux_cyears _ a b c) (ux_years _ a b c) ((kf_years hJ.2 a b c).ag ((fr_years _ a b c).ag DF rfl))
theorem pk_seen {h : MH} (hJ : JK h) (a : Int32) (b : Int32) (p : PairOK J1 TA 58 156 [.int a, .int b] h) : PairOK JK TE 58 156 [.int a, .int b] h := up_q (M1 := m_X6_seen) (M2 := m_X7_seen) (c := F_cseen (cI h) a b) (m := fun y => F_seen y a b) p hJ rfl rfl (by decide) (by decide) (ux_cseen _ a b) (ux_seen _ a b) (q_seen hJ.2 a b)
theorem pk_forget {h : MH} (hJ : JK h) (p : PairOK J1 TA 59 157 [] h) : PairOK JK TE 59 157 [] h := up_q (M1 := m_X6_forget) (M2 := m_X7_forget) (c := F_cforget (cI h)) (m := fun y => F_forget y) p hJ rfl rfl (by decide) (by decide) (ux_cforget _) (ux_forget _) (q_forget hJ.2)
theorem pk_sheet {h : MH} (hJ : JK h) (a : Int32) (b : Int32) (c : Int32) (p : PairOK J1 TA 70 172 [.int a, .int b, .int c] h) : PairOK JK TE 70 172 [.int a, .int b, .int c] h := up_q (M1 := m_X6_sheet) (M2 := m_X7_sheet) (c := F_csheet (cI h) a b c) (m := fun y => F_sheet y a b c) p hJ rfl rfl (by decide) (by decide) (ux_csheet _ a b c) (ux_sheet _ a b c) (q_sheet hJ.2 a b c)
theorem pk_lose {h : MH} (hJ : JK h) (a : Int32) (p : PairOK J1 TA 71 173 [.int a] h) : PairOK JK TE 71 173 [.int a] h := up_q (M1 := m_X6_lose) (M2 := m_X7_lose) (c := F_close (cI h) a) (m := fun y => F_lose y a) p hJ rfl rfl (by decide) (by decide) (ux_close _ a) (ux_lose _ a) (q_lose hJ.2 a)
theorem pk_put {h : MH} (hJ : JK h) (a : Int32) (b : Int32) (c : Int32) (d : Int32) (p : PairOK J1 TA 72 176 [.int a, .int b, .int c, .int d] h) : PairOK JK TE 72 176 [.int a, .int b, .int c, .int d] h := up_q (M1 := m_X6_put) (M2 := m_X7_put) (c := F_cput (cI h) a b c d) (m := fun y => F_put y a b c d) p hJ rfl rfl (by decide) (by decide) (ux_cput _ a b c d) (ux_put _ a b c d) (q_put hJ.2 a b c d)
theorem pk_get {h : MH} (hJ : JK h) (a : Int32) (b : Int32) (c : Int32) (p : PairOK J1 TA 73 177 [.int a, .int b, .int c] h) : PairOK JK TE 73 177 [.int a, .int b, .int c] h := up_q (M1 := m_X6_get) (M2 := m_X7_get) (c := F_cget (cI h) a b c) (m := fun y => F_get y a b c) p hJ rfl rfl (by decide) (by decide) (ux_cget _ a b c) (ux_get _ a b c) (q_get hJ.2 a b c)
theorem pk_copy {h : MH} (hJ : JK h) (a : Int32) (b : Int32) (c : Int32) (d : Int32) (e : Int32) (p : PairOK J1 TA 74 178 [.int a, .int b, .int c, .int d, .int e] h) : PairOK JK TE 74 178 [.int a, .int b, .int c, .int d, .int e] h := up_q (M1 := m_X6_copy) (M2 := m_X7_copy) (c := F_ccopy (cI h) a b c d e) (m := fun y => F_copy y a b c d e) p hJ rfl rfl (by decide) (by decide) (ux_ccopy _ a b c d e) (ux_copy _ a b c d e) (q_copy hJ.2 a b c d e)
theorem pk_write {h : MH} (hJ : JK h) (a : Int32) (b : Int32) (p : PairOK J1 TA 75 179 [.int a, .int b] h) : PairOK JK TE 75 179 [.int a, .int b] h := up_q (M1 := m_X6_write) (M2 := m_X7_write) (c := F_cwrite (cI h) a b) (m := fun y => F_write y a b) p hJ rfl rfl (by decide) (by decide) (ux_cwrite _ a b) (ux_write _ a b) (q_write hJ.2 a b)
theorem rd_60 {s : SG} (h : KF s) : ∀ q, q < 4 → (s (115 + 2 * q) 3).toInt ≤ 60 := fun q hq => by
  obtain ⟨-, -, k3, k4, k5, -⟩ := h.1.2.2.2.2.1 q hq
  rw [k3]
  have k5 : (s 150 q).toInt.toNat ≤ 60 := k5
  omega
theorem rd_61 {s : SG} (h : KF s) (a : Int32) : bl a 4 = true → ((F_cread s a).2 150 a.toNatClampNeg).toInt ≤ 60 := fun hb => by
  have hq : a.toNatClampNeg < 4 := (bl_ofn hb).2
  obtain ⟨k1, -, k3, k4, k5, -⟩ := h.1.2.2.2.2.1 _ hq
  have k5 : (s 150 a.toNatClampNeg).toInt.toNat ≤ 60 := k5
  have e : (F_cread s a).2 150 a.toNatClampNeg = s 150 a.toNatClampNeg := by
    unfold F_cread
    rw [hb, kT]
    cases m_cmp .eq (s (115 + 2 * a.toNatClampNeg) 1) 0 with
    | false => rw [kF]; rfl
    | true =>
      rw [kT]
      have key : ∀ (n i : Nat) (s : SG) (b j : Nat), 123 < b → (rdC (115 + 2 * a.toNatClampNeg) n i s).2 b j = s b j := by
        intro n
        induction n with
        | zero => exact fun i s b j _ => rfl
        | succ n ih =>
          intro i s b j hbj
          have fe : (evR (115 + 2 * a.toNatClampNeg) i s).2 b j = s b j := (fr_cevent s _ _ _) b j (by
            cases w : inW W_cevent b j with
            | false => rfl
            | true =>
              have x := inW_sub (D1 := W_cevent) (D2 := [(0, 123, none)]) rfl w
              simp [inW] at x
              omega)
          rw [rdC_s]
          cases m_cmp .ge (Int32.ofNat (3 * i) + 2) (s (115 + 2 * a.toNatClampNeg) 3) with
          | true => rfl
          | false =>
            rw [kF]
            cases m_cmp .ge (evR (115 + 2 * a.toNatClampNeg) i s).1 0 with
            | true => rw [kT, ih (i + 1) _ b j hbj]; exact fe
            | false => rw [kF]; exact fe
      exact key 20 0 s 150 _ (by omega)
  rw [e]
  omega
theorem pk_read {h : MH} (hJ : JK h) (a : Int32) (p : PairOK J1 TA 42 121 [.int a] h) : PairOK JK TE 42 121 [.int a] h := up_q (M1 := m_X6_read) (M2 := m_X7_read) (c := F_cread (cI h) a) (m := fun y => F_read y a) p hJ rfl rfl (by decide) (by decide) (ux_cread _ a (rd_60 hJ.2)) (ux_read _ a (rd_61 hJ.2 a)) (q_read hJ.2 a)
theorem pk_spare {xs : List Int32} {j : Int32} {h : MH} (hJ : JK h) : PairOK JK TA 55 155 (argsOf xs j 1 1) h := up_i (M1 := m_X6_spare) (M2 := m_X7_spare) hJ rfl rfl (ent_this 0 xs j 1 1 _ (by decide)) (ent_this 123 xs j 1 1 _ (by decide)) (by decide) (SPi.ct p_cc62 rfl (gS_this 0 (gS_args xs j 1 1)) (gH.eq eq_HCr hJ.1.1) rfl) (KI_spare hJ.2 _) (fun h1 g1 => SPi.ct p_cm61 rfl (gS_this 123 (gS_args xs j 1 1)) (gH.eq eq_HMr g1.1.2.1) rfl)
theorem pk_chance {xs : List Int32} {j : Int32} {h : MH} (hJ : JK h) : PairOK JK TL 66 167 (argsOf xs j 3 1) h := up_l (M1 := m_X6_chance) (M2 := m_X7_chance) hJ rfl rfl (ent_this 0 xs j 3 1 _ (by decide)) (ent_this 123 xs j 3 1 _ (by decide)) (by decide) (SPl.ct p_cc74 rfl (gS_this 0 (gS_args xs j 3 1)) (gH.eq eq_HCr hJ.1.1) rfl) (KL_chance hJ.2 _ _ _) (fun h1 g1 => SPl.ct p_cm74 rfl (gS_this 123 (gS_args xs j 3 1)) (gH.eq eq_HMr g1.1.2.1) rfl)
theorem pk_digest {xs : List Int32} {j : Int32} {h : MH} (hJ : JK h) : PairOK JK TL 77 185 (argsOf xs j 0 1) h := up_l (M1 := m_X6_digest) (M2 := m_X7_digest) hJ rfl rfl (ent_this 0 xs j 0 1 _ (by decide)) (ent_this 123 xs j 0 1 _ (by decide)) (by decide) (SPl.ct p_cc82 rfl (gS_this 0 (gS_args xs j 0 1)) (gH.eq eq_HCr hJ.1.1) rfl) (KL_digest hJ.2) (fun h1 g1 => SPl.ct p_cm83 rfl (gS_this 123 (gS_args xs j 0 1)) (gH.eq eq_HMr g1.1.2.1) rfl)
theorem KF_0 : KF (cI h0) := by
  refine ⟨⟨⟨⟨⟨?_, ?_, ?_, ?_⟩, ?_, ?_, ?_, ?_, ?_, ?_⟩, ?_, ?_⟩, ⟨⟨⟨-1, Or.inr ⟨?_, ?_⟩, ?_⟩, ?_⟩, ?_, ?_⟩, ⟨?_, ?_, ?_, ?_, ?_, ?_, ?_⟩, ⟨?_, ?_, ?_, ?_, ?_⟩, ⟨?_, ?_⟩⟩, KX.stale ?_ ?_⟩
  · decide +kernel
  · decide +kernel
  · decide +kernel
  · decide +kernel
  · decide +kernel
  · decide +kernel
  · decide +kernel
  · decide +kernel
  · decide +kernel
  · decide +kernel
  · decide +kernel
  · decide +kernel
  · decide +kernel
  · decide +kernel
  · decide +kernel
  · decide +kernel
  · unfold KC1; decide +kernel
  · unfold KC2; decide +kernel
  · decide +kernel
  · decide +kernel
  · decide +kernel
  · decide +kernel
  · intro e he
    have e0 : (cI h0 2 3).toNatClampNeg = 0 := by decide +kernel
    omega
  · decide +kernel
  · decide +kernel
  · decide +kernel
  · decide +kernel
  · decide +kernel
  · decide +kernel
  · intro e he
    have e0 : (cI h0 6 2).toNatClampNeg = 0 := by decide +kernel
    omega
  · unfold KHq; decide +kernel
  · decide +kernel
  · decide +kernel
  · decide +kernel
theorem JK_0 : JK h0 := ⟨J1_0, KF_0⟩
end
