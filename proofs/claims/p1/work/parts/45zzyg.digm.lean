/-! DIGEST: the model -/
theorem dM_min {b : SG} {kc ka : Int32 → Int32 → Int32} (Hc : ∀ a c, bl a 24 = true → bl c 2 = true → VM b m_X7_callOf [.int a, .int c] (.int (kc a c))) (Ha : ∀ a c, bl a 24 = true → bl c 5 = true → ∀ s, gdM b s → UP m_X7_atOf 0 (m_ent 3 [.ref 123, .int a, .int c]) [] s (fun r s1 => r = some (.int (ka a c)) ∧ gdM b s1 ∧ s1 123 2 = 0)) {t : Nat} (ht : t < 24) (h : Int64) (s : SG) (g : gdM b s) : UP m_X7_minuteDigest 0 [some (.ref 123), some (.long h), none, some (.int (Int32.ofNat t)), none, none, none] [] s (PoZ b (fd h (mvL kc ka t))) := by
  unfold mvL
  refine UP.stp 6 (i1 := 6) (L1 := [some (.ref 123), some (.long h), none, some (.int (Int32.ofNat t)), none, none, none]) (st1 := [.int 0, .int (Int32.ofNat t), .ref 123, .long (31 * h)]) (s1 := s) rfl ?_
  refine UP.call (M1 := m_X7_callOf) (as := [.ref 123, .int (Int32.ofNat t), .int 0]) (rest := [.long (31 * h)]) rfl rfl (Hc (Int32.ofNat t) 0 (blT ht) (by decide) s g) (fun r s1 q => ?_)
  obtain ⟨rfl, g2⟩ := q
  show UP m_X7_minuteDigest 7 [some (.ref 123), some (.long h), none, some (.int (Int32.ofNat t)), none, none, none] [.int (kc (Int32.ofNat t) 0), .long (31 * h)] s1 _
  refine UP.stp 3 (i1 := 10) (L1 := [some (.ref 123), some (.long h), none, some (.int (Int32.ofNat t)), some (.long (31 * h + (kc (Int32.ofNat t) 0).toInt64)), none, none]) (st1 := []) (s1 := s1) rfl ?_
  rw [fd_c]
  generalize 31 * h + (kc (Int32.ofNat t) 0).toInt64 = h3
  refine UP.stp 6 (i1 := 16) (L1 := [some (.ref 123), some (.long h), none, some (.int (Int32.ofNat t)), some (.long h3), none, none]) (st1 := [.int 1, .int (Int32.ofNat t), .ref 123, .long (31 * h3)]) (s1 := s1) rfl ?_
  refine UP.call (M1 := m_X7_callOf) (as := [.ref 123, .int (Int32.ofNat t), .int 1]) (rest := [.long (31 * h3)]) rfl rfl (Hc (Int32.ofNat t) 1 (blT ht) (by decide) s1 g2) (fun r s4 q => ?_)
  obtain ⟨rfl, g5⟩ := q
  show UP m_X7_minuteDigest 17 [some (.ref 123), some (.long h), none, some (.int (Int32.ofNat t)), some (.long h3), none, none] [.int (kc (Int32.ofNat t) 1), .long (31 * h3)] s4 _
  refine UP.stp 3 (i1 := 20) (L1 := [some (.ref 123), some (.long h), none, some (.int (Int32.ofNat t)), some (.long (31 * h3 + (kc (Int32.ofNat t) 1).toInt64)), none, none]) (st1 := []) (s1 := s4) rfl ?_
  rw [fd_c]
  generalize 31 * h3 + (kc (Int32.ofNat t) 1).toInt64 = h6
  refine UP.stp 4 (i1 := 24) (L1 := [some (.ref 123), some (.long h), none, some (.int (Int32.ofNat t)), some (.long h6), none, some (.int 0)]) (st1 := [.int 5, .int 0]) (s1 := s4) rfl ?_
  refine UP.icF rfl (by decide) ?_
  refine UP.stp 6 (i1 := 31) (L1 := [some (.ref 123), some (.long h), none, some (.int (Int32.ofNat t)), some (.long h6), none, some (.int 0)]) (st1 := [.int 0, .int (Int32.ofNat t), .ref 123, .long (31 * h6)]) (s1 := s4) rfl ?_
  refine UP.call (M1 := m_X7_atOf) (as := [.ref 123, .int (Int32.ofNat t), .int 0]) (rest := [.long (31 * h6)]) rfl rfl (Ha (Int32.ofNat t) 0 (blT ht) (by decide) s4 g5) (fun r s7 q => ?_)
  obtain ⟨rfl, g8, z_⟩ := q
  show UP m_X7_minuteDigest 32 [some (.ref 123), some (.long h), none, some (.int (Int32.ofNat t)), some (.long h6), none, some (.int 0)] [.int (ka (Int32.ofNat t) 0), .long (31 * h6)] s7 _
  refine UP.stp 3 (i1 := 35) (L1 := [some (.ref 123), some (.long h), none, some (.int (Int32.ofNat t)), some (.long (31 * h6 + (ka (Int32.ofNat t) 0).toInt64)), none, some (.int 0)]) (st1 := []) (s1 := s7) rfl ?_
  rw [fd_c]
  generalize 31 * h6 + (ka (Int32.ofNat t) 0).toInt64 = h9
  refine UP.stp 4 (i1 := 24) (L1 := [some (.ref 123), some (.long h), none, some (.int (Int32.ofNat t)), some (.long h9), none, some (.int 1)]) (st1 := [.int 5, .int 1]) (s1 := s7) rfl ?_
  refine UP.icF rfl (by decide) ?_
  refine UP.stp 6 (i1 := 31) (L1 := [some (.ref 123), some (.long h), none, some (.int (Int32.ofNat t)), some (.long h9), none, some (.int 1)]) (st1 := [.int 1, .int (Int32.ofNat t), .ref 123, .long (31 * h9)]) (s1 := s7) rfl ?_
  refine UP.call (M1 := m_X7_atOf) (as := [.ref 123, .int (Int32.ofNat t), .int 1]) (rest := [.long (31 * h9)]) rfl rfl (Ha (Int32.ofNat t) 1 (blT ht) (by decide) s7 g8) (fun r s10 q => ?_)
  obtain ⟨rfl, g11, z_⟩ := q
  show UP m_X7_minuteDigest 32 [some (.ref 123), some (.long h), none, some (.int (Int32.ofNat t)), some (.long h9), none, some (.int 1)] [.int (ka (Int32.ofNat t) 1), .long (31 * h9)] s10 _
  refine UP.stp 3 (i1 := 35) (L1 := [some (.ref 123), some (.long h), none, some (.int (Int32.ofNat t)), some (.long (31 * h9 + (ka (Int32.ofNat t) 1).toInt64)), none, some (.int 1)]) (st1 := []) (s1 := s10) rfl ?_
  rw [fd_c]
  generalize 31 * h9 + (ka (Int32.ofNat t) 1).toInt64 = h12
  refine UP.stp 4 (i1 := 24) (L1 := [some (.ref 123), some (.long h), none, some (.int (Int32.ofNat t)), some (.long h12), none, some (.int 2)]) (st1 := [.int 5, .int 2]) (s1 := s10) rfl ?_
  refine UP.icF rfl (by decide) ?_
  refine UP.stp 6 (i1 := 31) (L1 := [some (.ref 123), some (.long h), none, some (.int (Int32.ofNat t)), some (.long h12), none, some (.int 2)]) (st1 := [.int 2, .int (Int32.ofNat t), .ref 123, .long (31 * h12)]) (s1 := s10) rfl ?_
  refine UP.call (M1 := m_X7_atOf) (as := [.ref 123, .int (Int32.ofNat t), .int 2]) (rest := [.long (31 * h12)]) rfl rfl (Ha (Int32.ofNat t) 2 (blT ht) (by decide) s10 g11) (fun r s13 q => ?_)
  obtain ⟨rfl, g14, z_⟩ := q
  show UP m_X7_minuteDigest 32 [some (.ref 123), some (.long h), none, some (.int (Int32.ofNat t)), some (.long h12), none, some (.int 2)] [.int (ka (Int32.ofNat t) 2), .long (31 * h12)] s13 _
  refine UP.stp 3 (i1 := 35) (L1 := [some (.ref 123), some (.long h), none, some (.int (Int32.ofNat t)), some (.long (31 * h12 + (ka (Int32.ofNat t) 2).toInt64)), none, some (.int 2)]) (st1 := []) (s1 := s13) rfl ?_
  rw [fd_c]
  generalize 31 * h12 + (ka (Int32.ofNat t) 2).toInt64 = h15
  refine UP.stp 4 (i1 := 24) (L1 := [some (.ref 123), some (.long h), none, some (.int (Int32.ofNat t)), some (.long h15), none, some (.int 3)]) (st1 := [.int 5, .int 3]) (s1 := s13) rfl ?_
  refine UP.icF rfl (by decide) ?_
  refine UP.stp 6 (i1 := 31) (L1 := [some (.ref 123), some (.long h), none, some (.int (Int32.ofNat t)), some (.long h15), none, some (.int 3)]) (st1 := [.int 3, .int (Int32.ofNat t), .ref 123, .long (31 * h15)]) (s1 := s13) rfl ?_
  refine UP.call (M1 := m_X7_atOf) (as := [.ref 123, .int (Int32.ofNat t), .int 3]) (rest := [.long (31 * h15)]) rfl rfl (Ha (Int32.ofNat t) 3 (blT ht) (by decide) s13 g14) (fun r s16 q => ?_)
  obtain ⟨rfl, g17, z_⟩ := q
  show UP m_X7_minuteDigest 32 [some (.ref 123), some (.long h), none, some (.int (Int32.ofNat t)), some (.long h15), none, some (.int 3)] [.int (ka (Int32.ofNat t) 3), .long (31 * h15)] s16 _
  refine UP.stp 3 (i1 := 35) (L1 := [some (.ref 123), some (.long h), none, some (.int (Int32.ofNat t)), some (.long (31 * h15 + (ka (Int32.ofNat t) 3).toInt64)), none, some (.int 3)]) (st1 := []) (s1 := s16) rfl ?_
  rw [fd_c]
  generalize 31 * h15 + (ka (Int32.ofNat t) 3).toInt64 = h18
  refine UP.stp 4 (i1 := 24) (L1 := [some (.ref 123), some (.long h), none, some (.int (Int32.ofNat t)), some (.long h18), none, some (.int 4)]) (st1 := [.int 5, .int 4]) (s1 := s16) rfl ?_
  refine UP.icF rfl (by decide) ?_
  refine UP.stp 6 (i1 := 31) (L1 := [some (.ref 123), some (.long h), none, some (.int (Int32.ofNat t)), some (.long h18), none, some (.int 4)]) (st1 := [.int 4, .int (Int32.ofNat t), .ref 123, .long (31 * h18)]) (s1 := s16) rfl ?_
  refine UP.call (M1 := m_X7_atOf) (as := [.ref 123, .int (Int32.ofNat t), .int 4]) (rest := [.long (31 * h18)]) rfl rfl (Ha (Int32.ofNat t) 4 (blT ht) (by decide) s16 g17) (fun r s19 q => ?_)
  obtain ⟨rfl, g20, z_⟩ := q
  show UP m_X7_minuteDigest 32 [some (.ref 123), some (.long h), none, some (.int (Int32.ofNat t)), some (.long h18), none, some (.int 4)] [.int (ka (Int32.ofNat t) 4), .long (31 * h18)] s19 _
  refine UP.stp 3 (i1 := 35) (L1 := [some (.ref 123), some (.long h), none, some (.int (Int32.ofNat t)), some (.long (31 * h18 + (ka (Int32.ofNat t) 4).toInt64)), none, some (.int 4)]) (st1 := []) (s1 := s19) rfl ?_
  rw [fd_c]
  generalize 31 * h18 + (ka (Int32.ofNat t) 4).toInt64 = h21
  refine UP.stp 4 (i1 := 24) (L1 := [some (.ref 123), some (.long h), none, some (.int (Int32.ofNat t)), some (.long h21), none, some (.int 5)]) (st1 := [.int 5, .int 5]) (s1 := s19) rfl ?_
  refine UP.icT rfl (by decide) ?_
  refine UP.stp 1 (i1 := 38) (L1 := [some (.ref 123), some (.long h), none, some (.int (Int32.ofNat t)), some (.long h21), none, some (.int 5)]) (st1 := [.long h21]) (s1 := s19) rfl ?_
  exact UP.ret (r := some (.long h21)) rfl ⟨rfl, g20, z_⟩
theorem dM_plan2 {b : SG} {ks kk : Int32 → Int32 → Int32} {kh : Int32 → Int32 → Int64} (Hs : ∀ a c, bl a 24 = true → bl c 2 = true → VM b m_X7_steerOf [.int a, .int c] (.int (ks a c))) (Hk : ∀ a c, bl a 24 = true → bl c 2 = true → VM b m_X7_strokeOf [.int a, .int c] (.int (kk a c))) (Hh : ∀ a c, bl a 24 = true → bl c 2 = true → VM b m_X7_chanceOf [.int 5, .int a, .int c] (.long (kh a c))) (h : Int64) (s : SG) (g : gdM b s) : UP m_X7_planDigest 0 [some (.ref 123), some (.long h), none, some (.int 2), none, none] [] s (PoM b (fd h (plL ks kk kh 2))) := by
  unfold plL
  refine UP.stp 6 (i1 := 6) (L1 := [some (.ref 123), some (.long h), none, some (.int 2), none, none]) (st1 := [.int 0, .int 2, .ref 123, .long (31 * h)]) (s1 := s) rfl ?_
  refine UP.call (M1 := m_X7_steerOf) (as := [.ref 123, .int 2, .int 0]) (rest := [.long (31 * h)]) rfl rfl (Hs 2 0 (by decide) (by decide) s g) (fun r s1 q => ?_)
  obtain ⟨rfl, g2⟩ := q
  show UP m_X7_planDigest 7 [some (.ref 123), some (.long h), none, some (.int 2), none, none] [.int (ks 2 0), .long (31 * h)] s1 _
  refine UP.stp 3 (i1 := 10) (L1 := [some (.ref 123), some (.long h), none, some (.int 2), some (.long (31 * h + (ks 2 0).toInt64)), none]) (st1 := []) (s1 := s1) rfl ?_
  rw [fd_c]
  generalize 31 * h + (ks 2 0).toInt64 = h3
  refine UP.stp 6 (i1 := 16) (L1 := [some (.ref 123), some (.long h), none, some (.int 2), some (.long h3), none]) (st1 := [.int 1, .int 2, .ref 123, .long (31 * h3)]) (s1 := s1) rfl ?_
  refine UP.call (M1 := m_X7_steerOf) (as := [.ref 123, .int 2, .int 1]) (rest := [.long (31 * h3)]) rfl rfl (Hs 2 1 (by decide) (by decide) s1 g2) (fun r s4 q => ?_)
  obtain ⟨rfl, g5⟩ := q
  show UP m_X7_planDigest 17 [some (.ref 123), some (.long h), none, some (.int 2), some (.long h3), none] [.int (ks 2 1), .long (31 * h3)] s4 _
  refine UP.stp 3 (i1 := 20) (L1 := [some (.ref 123), some (.long h), none, some (.int 2), some (.long (31 * h3 + (ks 2 1).toInt64)), none]) (st1 := []) (s1 := s4) rfl ?_
  rw [fd_c]
  generalize 31 * h3 + (ks 2 1).toInt64 = h6
  refine UP.stp 6 (i1 := 26) (L1 := [some (.ref 123), some (.long h), none, some (.int 2), some (.long h6), none]) (st1 := [.int 0, .int 2, .ref 123, .long (31 * h6)]) (s1 := s4) rfl ?_
  refine UP.call (M1 := m_X7_strokeOf) (as := [.ref 123, .int 2, .int 0]) (rest := [.long (31 * h6)]) rfl rfl (Hk 2 0 (by decide) (by decide) s4 g5) (fun r s7 q => ?_)
  obtain ⟨rfl, g8⟩ := q
  show UP m_X7_planDigest 27 [some (.ref 123), some (.long h), none, some (.int 2), some (.long h6), none] [.int (kk 2 0), .long (31 * h6)] s7 _
  refine UP.stp 3 (i1 := 30) (L1 := [some (.ref 123), some (.long h), none, some (.int 2), some (.long (31 * h6 + (kk 2 0).toInt64)), none]) (st1 := []) (s1 := s7) rfl ?_
  rw [fd_c]
  generalize 31 * h6 + (kk 2 0).toInt64 = h9
  refine UP.stp 6 (i1 := 36) (L1 := [some (.ref 123), some (.long h), none, some (.int 2), some (.long h9), none]) (st1 := [.int 1, .int 2, .ref 123, .long (31 * h9)]) (s1 := s7) rfl ?_
  refine UP.call (M1 := m_X7_strokeOf) (as := [.ref 123, .int 2, .int 1]) (rest := [.long (31 * h9)]) rfl rfl (Hk 2 1 (by decide) (by decide) s7 g8) (fun r s10 q => ?_)
  obtain ⟨rfl, g11⟩ := q
  show UP m_X7_planDigest 37 [some (.ref 123), some (.long h), none, some (.int 2), some (.long h9), none] [.int (kk 2 1), .long (31 * h9)] s10 _
  refine UP.stp 3 (i1 := 40) (L1 := [some (.ref 123), some (.long h), none, some (.int 2), some (.long (31 * h9 + (kk 2 1).toInt64)), none]) (st1 := []) (s1 := s10) rfl ?_
  rw [fd_c]
  generalize 31 * h9 + (kk 2 1).toInt64 = h12
  refine UP.stp 7 (i1 := 47) (L1 := [some (.ref 123), some (.long h), none, some (.int 2), some (.long h12), none]) (st1 := [.int 0, .int 2, .int 5, .ref 123, .long (31 * h12)]) (s1 := s10) rfl ?_
  refine UP.call (M1 := m_X7_chanceOf) (as := [.ref 123, .int 5, .int 2, .int 0]) (rest := [.long (31 * h12)]) rfl rfl (Hh 2 0 (by decide) (by decide) s10 g11) (fun r s13 q => ?_)
  obtain ⟨rfl, g14⟩ := q
  show UP m_X7_planDigest 48 [some (.ref 123), some (.long h), none, some (.int 2), some (.long h12), none] [.long (kh 2 0), .long (31 * h12)] s13 _
  refine UP.stp 2 (i1 := 50) (L1 := [some (.ref 123), some (.long h), none, some (.int 2), some (.long (31 * h12 + (kh 2 0))), none]) (st1 := []) (s1 := s13) rfl ?_
  rw [fd_c]
  generalize 31 * h12 + (kh 2 0) = h15
  refine UP.stp 7 (i1 := 57) (L1 := [some (.ref 123), some (.long h), none, some (.int 2), some (.long h15), none]) (st1 := [.int 1, .int 2, .int 5, .ref 123, .long (31 * h15)]) (s1 := s13) rfl ?_
  refine UP.call (M1 := m_X7_chanceOf) (as := [.ref 123, .int 5, .int 2, .int 1]) (rest := [.long (31 * h15)]) rfl rfl (Hh 2 1 (by decide) (by decide) s13 g14) (fun r s16 q => ?_)
  obtain ⟨rfl, g17⟩ := q
  show UP m_X7_planDigest 58 [some (.ref 123), some (.long h), none, some (.int 2), some (.long h15), none] [.long (kh 2 1), .long (31 * h15)] s16 _
  refine UP.stp 1 (i1 := 59) (L1 := [some (.ref 123), some (.long h), none, some (.int 2), some (.long h15), none]) (st1 := [.long (31 * h15 + (kh 2 1))]) (s1 := s16) rfl ?_
  rw [fd_c, fd_n]
  exact UP.ret (r := some (.long (31 * h15 + (kh 2 1)))) rfl ⟨rfl, g17⟩
theorem dM_plan10 {b : SG} {ks kk : Int32 → Int32 → Int32} {kh : Int32 → Int32 → Int64} (Hs : ∀ a c, bl a 24 = true → bl c 2 = true → VM b m_X7_steerOf [.int a, .int c] (.int (ks a c))) (Hk : ∀ a c, bl a 24 = true → bl c 2 = true → VM b m_X7_strokeOf [.int a, .int c] (.int (kk a c))) (Hh : ∀ a c, bl a 24 = true → bl c 2 = true → VM b m_X7_chanceOf [.int 5, .int a, .int c] (.long (kh a c))) (h : Int64) (s : SG) (g : gdM b s) : UP m_X7_planDigest 0 [some (.ref 123), some (.long h), none, some (.int 10), none, none] [] s (PoM b (fd h (plL ks kk kh 10))) := by
  unfold plL
  refine UP.stp 6 (i1 := 6) (L1 := [some (.ref 123), some (.long h), none, some (.int 10), none, none]) (st1 := [.int 0, .int 10, .ref 123, .long (31 * h)]) (s1 := s) rfl ?_
  refine UP.call (M1 := m_X7_steerOf) (as := [.ref 123, .int 10, .int 0]) (rest := [.long (31 * h)]) rfl rfl (Hs 10 0 (by decide) (by decide) s g) (fun r s1 q => ?_)
  obtain ⟨rfl, g2⟩ := q
  show UP m_X7_planDigest 7 [some (.ref 123), some (.long h), none, some (.int 10), none, none] [.int (ks 10 0), .long (31 * h)] s1 _
  refine UP.stp 3 (i1 := 10) (L1 := [some (.ref 123), some (.long h), none, some (.int 10), some (.long (31 * h + (ks 10 0).toInt64)), none]) (st1 := []) (s1 := s1) rfl ?_
  rw [fd_c]
  generalize 31 * h + (ks 10 0).toInt64 = h3
  refine UP.stp 6 (i1 := 16) (L1 := [some (.ref 123), some (.long h), none, some (.int 10), some (.long h3), none]) (st1 := [.int 1, .int 10, .ref 123, .long (31 * h3)]) (s1 := s1) rfl ?_
  refine UP.call (M1 := m_X7_steerOf) (as := [.ref 123, .int 10, .int 1]) (rest := [.long (31 * h3)]) rfl rfl (Hs 10 1 (by decide) (by decide) s1 g2) (fun r s4 q => ?_)
  obtain ⟨rfl, g5⟩ := q
  show UP m_X7_planDigest 17 [some (.ref 123), some (.long h), none, some (.int 10), some (.long h3), none] [.int (ks 10 1), .long (31 * h3)] s4 _
  refine UP.stp 3 (i1 := 20) (L1 := [some (.ref 123), some (.long h), none, some (.int 10), some (.long (31 * h3 + (ks 10 1).toInt64)), none]) (st1 := []) (s1 := s4) rfl ?_
  rw [fd_c]
  generalize 31 * h3 + (ks 10 1).toInt64 = h6
  refine UP.stp 6 (i1 := 26) (L1 := [some (.ref 123), some (.long h), none, some (.int 10), some (.long h6), none]) (st1 := [.int 0, .int 10, .ref 123, .long (31 * h6)]) (s1 := s4) rfl ?_
  refine UP.call (M1 := m_X7_strokeOf) (as := [.ref 123, .int 10, .int 0]) (rest := [.long (31 * h6)]) rfl rfl (Hk 10 0 (by decide) (by decide) s4 g5) (fun r s7 q => ?_)
  obtain ⟨rfl, g8⟩ := q
  show UP m_X7_planDigest 27 [some (.ref 123), some (.long h), none, some (.int 10), some (.long h6), none] [.int (kk 10 0), .long (31 * h6)] s7 _
  refine UP.stp 3 (i1 := 30) (L1 := [some (.ref 123), some (.long h), none, some (.int 10), some (.long (31 * h6 + (kk 10 0).toInt64)), none]) (st1 := []) (s1 := s7) rfl ?_
  rw [fd_c]
  generalize 31 * h6 + (kk 10 0).toInt64 = h9
  refine UP.stp 6 (i1 := 36) (L1 := [some (.ref 123), some (.long h), none, some (.int 10), some (.long h9), none]) (st1 := [.int 1, .int 10, .ref 123, .long (31 * h9)]) (s1 := s7) rfl ?_
  refine UP.call (M1 := m_X7_strokeOf) (as := [.ref 123, .int 10, .int 1]) (rest := [.long (31 * h9)]) rfl rfl (Hk 10 1 (by decide) (by decide) s7 g8) (fun r s10 q => ?_)
  obtain ⟨rfl, g11⟩ := q
  show UP m_X7_planDigest 37 [some (.ref 123), some (.long h), none, some (.int 10), some (.long h9), none] [.int (kk 10 1), .long (31 * h9)] s10 _
  refine UP.stp 3 (i1 := 40) (L1 := [some (.ref 123), some (.long h), none, some (.int 10), some (.long (31 * h9 + (kk 10 1).toInt64)), none]) (st1 := []) (s1 := s10) rfl ?_
  rw [fd_c]
  generalize 31 * h9 + (kk 10 1).toInt64 = h12
  refine UP.stp 7 (i1 := 47) (L1 := [some (.ref 123), some (.long h), none, some (.int 10), some (.long h12), none]) (st1 := [.int 0, .int 10, .int 5, .ref 123, .long (31 * h12)]) (s1 := s10) rfl ?_
  refine UP.call (M1 := m_X7_chanceOf) (as := [.ref 123, .int 5, .int 10, .int 0]) (rest := [.long (31 * h12)]) rfl rfl (Hh 10 0 (by decide) (by decide) s10 g11) (fun r s13 q => ?_)
  obtain ⟨rfl, g14⟩ := q
  show UP m_X7_planDigest 48 [some (.ref 123), some (.long h), none, some (.int 10), some (.long h12), none] [.long (kh 10 0), .long (31 * h12)] s13 _
  refine UP.stp 2 (i1 := 50) (L1 := [some (.ref 123), some (.long h), none, some (.int 10), some (.long (31 * h12 + (kh 10 0))), none]) (st1 := []) (s1 := s13) rfl ?_
  rw [fd_c]
  generalize 31 * h12 + (kh 10 0) = h15
  refine UP.stp 7 (i1 := 57) (L1 := [some (.ref 123), some (.long h), none, some (.int 10), some (.long h15), none]) (st1 := [.int 1, .int 10, .int 5, .ref 123, .long (31 * h15)]) (s1 := s13) rfl ?_
  refine UP.call (M1 := m_X7_chanceOf) (as := [.ref 123, .int 5, .int 10, .int 1]) (rest := [.long (31 * h15)]) rfl rfl (Hh 10 1 (by decide) (by decide) s13 g14) (fun r s16 q => ?_)
  obtain ⟨rfl, g17⟩ := q
  show UP m_X7_planDigest 58 [some (.ref 123), some (.long h), none, some (.int 10), some (.long h15), none] [.long (kh 10 1), .long (31 * h15)] s16 _
  refine UP.stp 1 (i1 := 59) (L1 := [some (.ref 123), some (.long h), none, some (.int 10), some (.long h15), none]) (st1 := [.long (31 * h15 + (kh 10 1))]) (s1 := s16) rfl ?_
  rw [fd_c, fd_n]
  exact UP.ret (r := some (.long (31 * h15 + (kh 10 1)))) rfl ⟨rfl, g17⟩
theorem dM_loop {b : SG} {kc ka : Int32 → Int32 → Int32} (Hc : ∀ a c, bl a 24 = true → bl c 2 = true → VM b m_X7_callOf [.int a, .int c] (.int (kc a c))) (Ha : ∀ a c, bl a 24 = true → bl c 5 = true → ∀ s, gdM b s → UP m_X7_atOf 0 (m_ent 3 [.ref 123, .int a, .int c]) [] s (fun r s1 => r = some (.int (ka a c)) ∧ gdM b s1 ∧ s1 123 2 = 0)) {P : Option Value → SG → Prop} : ∀ (n t : Nat) (h : Int64) (s : SG), t + n = 24 → gdM b s → (n = 24 ∨ s 123 2 = 0) → (∀ s1, gdM b s1 → s1 123 2 = 0 → UP m_X7_digest 46 [some (.ref 123), some (.long ((fd h (mlL kc ka n t)))), none, some (.int (Int32.ofNat 24))] [] s1 P) → UP m_X7_digest 36 [some (.ref 123), some (.long h), none, some (.int (Int32.ofNat t))] [] s P := by
  intro n
  induction n with
  | zero =>
    intro t h s ht g hz k
    have ht : t = 24 := by omega
    subst ht
    refine UP.stp 2 (i1 := 38) (L1 := [some (.ref 123), some (.long h), none, some (.int (Int32.ofNat 24))]) (st1 := [.int 24, .int (Int32.ofNat 24)]) (s1 := s) rfl ?_
    refine UP.icT rfl (by decide) ?_
    rcases hz with hz | hz
    · omega
    · exact k s g hz
  | succ n ih =>
    intro t h s hn g hz k
    have ht : t < 24 := by omega
    refine UP.stp 2 (i1 := 38) (L1 := [some (.ref 123), some (.long h), none, some (.int (Int32.ofNat t))]) (st1 := [.int 24, .int (Int32.ofNat t)]) (s1 := s) rfl ?_
    refine UP.icF rfl (geT ht) ?_
    refine UP.stp 3 (i1 := 42) (L1 := [some (.ref 123), some (.long h), none, some (.int (Int32.ofNat t))]) (st1 := [.int (Int32.ofNat t), .long h, .ref 123]) (s1 := s) rfl ?_
    refine UP.call (M1 := m_X7_minuteDigest) (as := [.ref 123, .long h, .int (Int32.ofNat t)]) (rest := []) rfl rfl (dM_min Hc Ha ht h s g) (fun r s1 q => ?_)
    obtain ⟨rfl, g1, z1⟩ := q
    refine UP.stp 3 (i1 := 36) (L1 := [some (.ref 123), some (.long ((fd h (mvL kc ka t)))), none, some (.int (Int32.ofNat t + 1))]) (st1 := []) (s1 := s1) rfl ?_
    rw [ofn_s]
    refine ih (t + 1) _ s1 (by omega) g1 (Or.inr z1) (fun s2 g2 z2 => ?_)
    have e : fd h (mlL kc ka (n + 1) t) = fd (fd h (mvL kc ka t)) (mlL kc ka n (t + 1)) := fd_a h _ _
    rw [← e]
    exact k s2 g2 z2
theorem dM_digest {b : SG} {kn kf kg ky kw ke : Int32 → Int32} {kc ka ks kk : Int32 → Int32 → Int32} {kh : Int32 → Int32 → Int64} {kt ki p0 p1 kv : Int32} (Hn : ∀ a, bl a 8 = true → VM b m_X7_count [.int a] (.int (kn a))) (Hf : ∀ a, bl a 3 = true → VM b m_X7_faultOf [.int a] (.int (kf a))) (Hc : ∀ a c, bl a 24 = true → bl c 2 = true → VM b m_X7_callOf [.int a, .int c] (.int (kc a c))) (Ha : ∀ a c, bl a 24 = true → bl c 5 = true → ∀ s, gdM b s → UP m_X7_atOf 0 (m_ent 3 [.ref 123, .int a, .int c]) [] s (fun r s1 => r = some (.int (ka a c)) ∧ gdM b s1 ∧ s1 123 2 = 0)) (Hs : ∀ a c, bl a 24 = true → bl c 2 = true → VM b m_X7_steerOf [.int a, .int c] (.int (ks a c))) (Hk : ∀ a c, bl a 24 = true → bl c 2 = true → VM b m_X7_strokeOf [.int a, .int c] (.int (kk a c))) (Hh : ∀ a c, bl a 24 = true → bl c 2 = true → VM b m_X7_chanceOf [.int 5, .int a, .int c] (.long (kh a c))) (Ht : VM b m_X7_thereOf [] (.int kt)) (Hg : ∀ a, bl a 2 = true → VM b m_X7_groundedOf [.int a] (.int (kg a))) (Hy : ∀ a, bl a 2 = true → VM b m_X7_strayOf [.int a] (.int (ky a))) (Hb : VM b m_X7_bestOf [] (.int (-1))) (Hi : VM b m_X7_idleOf [] (.int ki)) (Hw : ∀ a, bl a 3 = true → VM b m_X7_swapOf [.int a] (.int (kw a))) (Hp : ∀ y, gdM b y → UP m_X7_spareBy 0 (m_ent 3 [.ref 123]) [] y (fun r s1 => r = some (.int p0) ∧ gdM b s1 ∧ F_ofRow s1 p0 0 = p1)) (Hv : VM b m_X7_neverNow [] (.int kv)) (He : ∀ a, bl a 2 = true → VM b m_X7_yearsOf [.int 7, .int 18, .int a] (.int (ke a))) (s : SG) (g : gdM b s) : UP m_X7_digest 0 [some (.ref 123), none, none, none] [] s (PoM b (fd (fd (fd (fd (fd 17 (nfL kn kf)) (mlL kc ka 24 0)) (plL ks kk kh 2)) (plL ks kk kh 10)) (whL kg ky kw ke kt ki p0 p1 kv))) := by
  unfold nfL
  refine UP.stp 6 (i1 := 6) (L1 := [some (.ref 123), some (.long 17), none, some (.int 0)]) (st1 := [.int 8, .int 0]) (s1 := s) rfl ?_
  refine UP.icF rfl (by decide) ?_
  refine UP.stp 5 (i1 := 12) (L1 := [some (.ref 123), some (.long 17), none, some (.int 0)]) (st1 := [.int 0, .ref 123, .long (31 * 17)]) (s1 := s) rfl ?_
  refine UP.call (M1 := m_X7_count) (as := [.ref 123, .int 0]) (rest := [.long (31 * 17)]) rfl rfl (Hn 0 (by decide) s g) (fun r s1 q => ?_)
  obtain ⟨rfl, g2⟩ := q
  show UP m_X7_digest 13 [some (.ref 123), some (.long 17), none, some (.int 0)] [.int (kn 0), .long (31 * 17)] s1 _
  refine UP.stp 3 (i1 := 16) (L1 := [some (.ref 123), some (.long (31 * 17 + (kn 0).toInt64)), none, some (.int 0)]) (st1 := []) (s1 := s1) rfl ?_
  rw [fd_c]
  generalize 31 * 17 + (kn 0).toInt64 = h3
  refine UP.stp 4 (i1 := 6) (L1 := [some (.ref 123), some (.long h3), none, some (.int 1)]) (st1 := [.int 8, .int 1]) (s1 := s1) rfl ?_
  refine UP.icF rfl (by decide) ?_
  refine UP.stp 5 (i1 := 12) (L1 := [some (.ref 123), some (.long h3), none, some (.int 1)]) (st1 := [.int 1, .ref 123, .long (31 * h3)]) (s1 := s1) rfl ?_
  refine UP.call (M1 := m_X7_count) (as := [.ref 123, .int 1]) (rest := [.long (31 * h3)]) rfl rfl (Hn 1 (by decide) s1 g2) (fun r s4 q => ?_)
  obtain ⟨rfl, g5⟩ := q
  show UP m_X7_digest 13 [some (.ref 123), some (.long h3), none, some (.int 1)] [.int (kn 1), .long (31 * h3)] s4 _
  refine UP.stp 3 (i1 := 16) (L1 := [some (.ref 123), some (.long (31 * h3 + (kn 1).toInt64)), none, some (.int 1)]) (st1 := []) (s1 := s4) rfl ?_
  rw [fd_c]
  generalize 31 * h3 + (kn 1).toInt64 = h6
  refine UP.stp 4 (i1 := 6) (L1 := [some (.ref 123), some (.long h6), none, some (.int 2)]) (st1 := [.int 8, .int 2]) (s1 := s4) rfl ?_
  refine UP.icF rfl (by decide) ?_
  refine UP.stp 5 (i1 := 12) (L1 := [some (.ref 123), some (.long h6), none, some (.int 2)]) (st1 := [.int 2, .ref 123, .long (31 * h6)]) (s1 := s4) rfl ?_
  refine UP.call (M1 := m_X7_count) (as := [.ref 123, .int 2]) (rest := [.long (31 * h6)]) rfl rfl (Hn 2 (by decide) s4 g5) (fun r s7 q => ?_)
  obtain ⟨rfl, g8⟩ := q
  show UP m_X7_digest 13 [some (.ref 123), some (.long h6), none, some (.int 2)] [.int (kn 2), .long (31 * h6)] s7 _
  refine UP.stp 3 (i1 := 16) (L1 := [some (.ref 123), some (.long (31 * h6 + (kn 2).toInt64)), none, some (.int 2)]) (st1 := []) (s1 := s7) rfl ?_
  rw [fd_c]
  generalize 31 * h6 + (kn 2).toInt64 = h9
  refine UP.stp 4 (i1 := 6) (L1 := [some (.ref 123), some (.long h9), none, some (.int 3)]) (st1 := [.int 8, .int 3]) (s1 := s7) rfl ?_
  refine UP.icF rfl (by decide) ?_
  refine UP.stp 5 (i1 := 12) (L1 := [some (.ref 123), some (.long h9), none, some (.int 3)]) (st1 := [.int 3, .ref 123, .long (31 * h9)]) (s1 := s7) rfl ?_
  refine UP.call (M1 := m_X7_count) (as := [.ref 123, .int 3]) (rest := [.long (31 * h9)]) rfl rfl (Hn 3 (by decide) s7 g8) (fun r s10 q => ?_)
  obtain ⟨rfl, g11⟩ := q
  show UP m_X7_digest 13 [some (.ref 123), some (.long h9), none, some (.int 3)] [.int (kn 3), .long (31 * h9)] s10 _
  refine UP.stp 3 (i1 := 16) (L1 := [some (.ref 123), some (.long (31 * h9 + (kn 3).toInt64)), none, some (.int 3)]) (st1 := []) (s1 := s10) rfl ?_
  rw [fd_c]
  generalize 31 * h9 + (kn 3).toInt64 = h12
  refine UP.stp 4 (i1 := 6) (L1 := [some (.ref 123), some (.long h12), none, some (.int 4)]) (st1 := [.int 8, .int 4]) (s1 := s10) rfl ?_
  refine UP.icF rfl (by decide) ?_
  refine UP.stp 5 (i1 := 12) (L1 := [some (.ref 123), some (.long h12), none, some (.int 4)]) (st1 := [.int 4, .ref 123, .long (31 * h12)]) (s1 := s10) rfl ?_
  refine UP.call (M1 := m_X7_count) (as := [.ref 123, .int 4]) (rest := [.long (31 * h12)]) rfl rfl (Hn 4 (by decide) s10 g11) (fun r s13 q => ?_)
  obtain ⟨rfl, g14⟩ := q
  show UP m_X7_digest 13 [some (.ref 123), some (.long h12), none, some (.int 4)] [.int (kn 4), .long (31 * h12)] s13 _
  refine UP.stp 3 (i1 := 16) (L1 := [some (.ref 123), some (.long (31 * h12 + (kn 4).toInt64)), none, some (.int 4)]) (st1 := []) (s1 := s13) rfl ?_
  rw [fd_c]
  generalize 31 * h12 + (kn 4).toInt64 = h15
  refine UP.stp 4 (i1 := 6) (L1 := [some (.ref 123), some (.long h15), none, some (.int 5)]) (st1 := [.int 8, .int 5]) (s1 := s13) rfl ?_
  refine UP.icF rfl (by decide) ?_
  refine UP.stp 5 (i1 := 12) (L1 := [some (.ref 123), some (.long h15), none, some (.int 5)]) (st1 := [.int 5, .ref 123, .long (31 * h15)]) (s1 := s13) rfl ?_
  refine UP.call (M1 := m_X7_count) (as := [.ref 123, .int 5]) (rest := [.long (31 * h15)]) rfl rfl (Hn 5 (by decide) s13 g14) (fun r s16 q => ?_)
  obtain ⟨rfl, g17⟩ := q
  show UP m_X7_digest 13 [some (.ref 123), some (.long h15), none, some (.int 5)] [.int (kn 5), .long (31 * h15)] s16 _
  refine UP.stp 3 (i1 := 16) (L1 := [some (.ref 123), some (.long (31 * h15 + (kn 5).toInt64)), none, some (.int 5)]) (st1 := []) (s1 := s16) rfl ?_
  rw [fd_c]
  generalize 31 * h15 + (kn 5).toInt64 = h18
  refine UP.stp 4 (i1 := 6) (L1 := [some (.ref 123), some (.long h18), none, some (.int 6)]) (st1 := [.int 8, .int 6]) (s1 := s16) rfl ?_
  refine UP.icF rfl (by decide) ?_
  refine UP.stp 5 (i1 := 12) (L1 := [some (.ref 123), some (.long h18), none, some (.int 6)]) (st1 := [.int 6, .ref 123, .long (31 * h18)]) (s1 := s16) rfl ?_
  refine UP.call (M1 := m_X7_count) (as := [.ref 123, .int 6]) (rest := [.long (31 * h18)]) rfl rfl (Hn 6 (by decide) s16 g17) (fun r s19 q => ?_)
  obtain ⟨rfl, g20⟩ := q
  show UP m_X7_digest 13 [some (.ref 123), some (.long h18), none, some (.int 6)] [.int (kn 6), .long (31 * h18)] s19 _
  refine UP.stp 3 (i1 := 16) (L1 := [some (.ref 123), some (.long (31 * h18 + (kn 6).toInt64)), none, some (.int 6)]) (st1 := []) (s1 := s19) rfl ?_
  rw [fd_c]
  generalize 31 * h18 + (kn 6).toInt64 = h21
  refine UP.stp 4 (i1 := 6) (L1 := [some (.ref 123), some (.long h21), none, some (.int 7)]) (st1 := [.int 8, .int 7]) (s1 := s19) rfl ?_
  refine UP.icF rfl (by decide) ?_
  refine UP.stp 5 (i1 := 12) (L1 := [some (.ref 123), some (.long h21), none, some (.int 7)]) (st1 := [.int 7, .ref 123, .long (31 * h21)]) (s1 := s19) rfl ?_
  refine UP.call (M1 := m_X7_count) (as := [.ref 123, .int 7]) (rest := [.long (31 * h21)]) rfl rfl (Hn 7 (by decide) s19 g20) (fun r s22 q => ?_)
  obtain ⟨rfl, g23⟩ := q
  show UP m_X7_digest 13 [some (.ref 123), some (.long h21), none, some (.int 7)] [.int (kn 7), .long (31 * h21)] s22 _
  refine UP.stp 3 (i1 := 16) (L1 := [some (.ref 123), some (.long (31 * h21 + (kn 7).toInt64)), none, some (.int 7)]) (st1 := []) (s1 := s22) rfl ?_
  rw [fd_c]
  generalize 31 * h21 + (kn 7).toInt64 = h24
  refine UP.stp 4 (i1 := 6) (L1 := [some (.ref 123), some (.long h24), none, some (.int 8)]) (st1 := [.int 8, .int 8]) (s1 := s22) rfl ?_
  refine UP.icT rfl (by decide) ?_
  refine UP.stp 4 (i1 := 22) (L1 := [some (.ref 123), some (.long h24), none, some (.int 0)]) (st1 := [.int 3, .int 0]) (s1 := s22) rfl ?_
  refine UP.icF rfl (by decide) ?_
  refine UP.stp 5 (i1 := 28) (L1 := [some (.ref 123), some (.long h24), none, some (.int 0)]) (st1 := [.int 0, .ref 123, .long (31 * h24)]) (s1 := s22) rfl ?_
  refine UP.call (M1 := m_X7_faultOf) (as := [.ref 123, .int 0]) (rest := [.long (31 * h24)]) rfl rfl (Hf 0 (by decide) s22 g23) (fun r s25 q => ?_)
  obtain ⟨rfl, g26⟩ := q
  show UP m_X7_digest 29 [some (.ref 123), some (.long h24), none, some (.int 0)] [.int (kf 0), .long (31 * h24)] s25 _
  refine UP.stp 3 (i1 := 32) (L1 := [some (.ref 123), some (.long (31 * h24 + (kf 0).toInt64)), none, some (.int 0)]) (st1 := []) (s1 := s25) rfl ?_
  rw [fd_c]
  generalize 31 * h24 + (kf 0).toInt64 = h27
  refine UP.stp 4 (i1 := 22) (L1 := [some (.ref 123), some (.long h27), none, some (.int 1)]) (st1 := [.int 3, .int 1]) (s1 := s25) rfl ?_
  refine UP.icF rfl (by decide) ?_
  refine UP.stp 5 (i1 := 28) (L1 := [some (.ref 123), some (.long h27), none, some (.int 1)]) (st1 := [.int 1, .ref 123, .long (31 * h27)]) (s1 := s25) rfl ?_
  refine UP.call (M1 := m_X7_faultOf) (as := [.ref 123, .int 1]) (rest := [.long (31 * h27)]) rfl rfl (Hf 1 (by decide) s25 g26) (fun r s28 q => ?_)
  obtain ⟨rfl, g29⟩ := q
  show UP m_X7_digest 29 [some (.ref 123), some (.long h27), none, some (.int 1)] [.int (kf 1), .long (31 * h27)] s28 _
  refine UP.stp 3 (i1 := 32) (L1 := [some (.ref 123), some (.long (31 * h27 + (kf 1).toInt64)), none, some (.int 1)]) (st1 := []) (s1 := s28) rfl ?_
  rw [fd_c]
  generalize 31 * h27 + (kf 1).toInt64 = h30
  refine UP.stp 4 (i1 := 22) (L1 := [some (.ref 123), some (.long h30), none, some (.int 2)]) (st1 := [.int 3, .int 2]) (s1 := s28) rfl ?_
  refine UP.icF rfl (by decide) ?_
  refine UP.stp 5 (i1 := 28) (L1 := [some (.ref 123), some (.long h30), none, some (.int 2)]) (st1 := [.int 2, .ref 123, .long (31 * h30)]) (s1 := s28) rfl ?_
  refine UP.call (M1 := m_X7_faultOf) (as := [.ref 123, .int 2]) (rest := [.long (31 * h30)]) rfl rfl (Hf 2 (by decide) s28 g29) (fun r s31 q => ?_)
  obtain ⟨rfl, g32⟩ := q
  show UP m_X7_digest 29 [some (.ref 123), some (.long h30), none, some (.int 2)] [.int (kf 2), .long (31 * h30)] s31 _
  refine UP.stp 3 (i1 := 32) (L1 := [some (.ref 123), some (.long (31 * h30 + (kf 2).toInt64)), none, some (.int 2)]) (st1 := []) (s1 := s31) rfl ?_
  rw [fd_c, fd_n]
  generalize 31 * h30 + (kf 2).toInt64 = h33
  refine UP.stp 4 (i1 := 22) (L1 := [some (.ref 123), some (.long h33), none, some (.int 3)]) (st1 := [.int 3, .int 3]) (s1 := s31) rfl ?_
  refine UP.icT rfl (by decide) ?_
  refine UP.stp 2 (i1 := 36) (L1 := [some (.ref 123), some (.long h33), none, some (.int 0)]) (st1 := []) (s1 := s31) rfl ?_
  refine dM_loop Hc Ha 24 0 h33 s31 rfl g32 (Or.inl rfl) (fun sz gz hz => ?_)
  generalize fd h33 (mlL kc ka 24 0) = hm
  refine UP.stp 5 (i1 := 51) (L1 := [some (.ref 123), some (.long hm), none, some (.int 0)]) (st1 := [.int (sz 123 2), .int 0]) (s1 := sz) rfl ?_
  refine UP.icT rfl (by rw [hz]; decide) ?_
  refine UP.stp 3 (i1 := 62) (L1 := [some (.ref 123), some (.long hm), none, some (.int 0)]) (st1 := [.int 2, .long hm, .ref 123]) (s1 := sz) rfl ?_
  refine UP.call (M1 := m_X7_planDigest) (as := [.ref 123, .long hm, .int 2]) (rest := []) rfl rfl (dM_plan2 Hs Hk Hh hm sz gz) (fun r s34 q => ?_)
  obtain ⟨rfl, g35⟩ := q
  show UP m_X7_digest 63 [some (.ref 123), some (.long hm), none, some (.int 0)] [.long (fd hm (plL ks kk kh 2))] s34 _
  refine UP.stp 1 (i1 := 64) (L1 := [some (.ref 123), some (.long (fd hm (plL ks kk kh 2))), none, some (.int 0)]) (st1 := []) (s1 := s34) rfl ?_
  generalize fd hm (plL ks kk kh 2) = h36
  refine UP.stp 3 (i1 := 67) (L1 := [some (.ref 123), some (.long h36), none, some (.int 0)]) (st1 := [.int 10, .long h36, .ref 123]) (s1 := s34) rfl ?_
  refine UP.call (M1 := m_X7_planDigest) (as := [.ref 123, .long h36, .int 10]) (rest := []) rfl rfl (dM_plan10 Hs Hk Hh h36 s34 g35) (fun r s37 q => ?_)
  obtain ⟨rfl, g38⟩ := q
  show UP m_X7_digest 68 [some (.ref 123), some (.long h36), none, some (.int 0)] [.long (fd h36 (plL ks kk kh 10))] s37 _
  refine UP.stp 1 (i1 := 69) (L1 := [some (.ref 123), some (.long (fd h36 (plL ks kk kh 10))), none, some (.int 0)]) (st1 := []) (s1 := s37) rfl ?_
  generalize fd h36 (plL ks kk kh 10) = h39
  unfold whL
  refine UP.stp 4 (i1 := 73) (L1 := [some (.ref 123), some (.long h39), none, some (.int 0)]) (st1 := [.ref 123, .long (31 * h39)]) (s1 := s37) rfl ?_
  refine UP.call (M1 := m_X7_thereOf) (as := [.ref 123]) (rest := [.long (31 * h39)]) rfl rfl (Ht s37 g38) (fun r s40 q => ?_)
  obtain ⟨rfl, g41⟩ := q
  show UP m_X7_digest 74 [some (.ref 123), some (.long h39), none, some (.int 0)] [.int kt, .long (31 * h39)] s40 _
  refine UP.stp 3 (i1 := 77) (L1 := [some (.ref 123), some (.long (31 * h39 + kt.toInt64)), none, some (.int 0)]) (st1 := []) (s1 := s40) rfl ?_
  rw [fd_c]
  generalize 31 * h39 + kt.toInt64 = h42
  refine UP.stp 5 (i1 := 82) (L1 := [some (.ref 123), some (.long h42), none, some (.int 0)]) (st1 := [.int 0, .ref 123, .long (31 * h42)]) (s1 := s40) rfl ?_
  refine UP.call (M1 := m_X7_groundedOf) (as := [.ref 123, .int 0]) (rest := [.long (31 * h42)]) rfl rfl (Hg 0 (by decide) s40 g41) (fun r s43 q => ?_)
  obtain ⟨rfl, g44⟩ := q
  show UP m_X7_digest 83 [some (.ref 123), some (.long h42), none, some (.int 0)] [.int (kg 0), .long (31 * h42)] s43 _
  refine UP.stp 3 (i1 := 86) (L1 := [some (.ref 123), some (.long (31 * h42 + (kg 0).toInt64)), none, some (.int 0)]) (st1 := []) (s1 := s43) rfl ?_
  rw [fd_c]
  generalize 31 * h42 + (kg 0).toInt64 = h45
  refine UP.stp 5 (i1 := 91) (L1 := [some (.ref 123), some (.long h45), none, some (.int 0)]) (st1 := [.int 1, .ref 123, .long (31 * h45)]) (s1 := s43) rfl ?_
  refine UP.call (M1 := m_X7_groundedOf) (as := [.ref 123, .int 1]) (rest := [.long (31 * h45)]) rfl rfl (Hg 1 (by decide) s43 g44) (fun r s46 q => ?_)
  obtain ⟨rfl, g47⟩ := q
  show UP m_X7_digest 92 [some (.ref 123), some (.long h45), none, some (.int 0)] [.int (kg 1), .long (31 * h45)] s46 _
  refine UP.stp 3 (i1 := 95) (L1 := [some (.ref 123), some (.long (31 * h45 + (kg 1).toInt64)), none, some (.int 0)]) (st1 := []) (s1 := s46) rfl ?_
  rw [fd_c]
  generalize 31 * h45 + (kg 1).toInt64 = h48
  refine UP.stp 5 (i1 := 100) (L1 := [some (.ref 123), some (.long h48), none, some (.int 0)]) (st1 := [.int 0, .ref 123, .long (31 * h48)]) (s1 := s46) rfl ?_
  refine UP.call (M1 := m_X7_strayOf) (as := [.ref 123, .int 0]) (rest := [.long (31 * h48)]) rfl rfl (Hy 0 (by decide) s46 g47) (fun r s49 q => ?_)
  obtain ⟨rfl, g50⟩ := q
  show UP m_X7_digest 101 [some (.ref 123), some (.long h48), none, some (.int 0)] [.int (ky 0), .long (31 * h48)] s49 _
  refine UP.stp 3 (i1 := 104) (L1 := [some (.ref 123), some (.long (31 * h48 + (ky 0).toInt64)), none, some (.int 0)]) (st1 := []) (s1 := s49) rfl ?_
  rw [fd_c]
  generalize 31 * h48 + (ky 0).toInt64 = h51
  refine UP.stp 5 (i1 := 109) (L1 := [some (.ref 123), some (.long h51), none, some (.int 0)]) (st1 := [.int 1, .ref 123, .long (31 * h51)]) (s1 := s49) rfl ?_
  refine UP.call (M1 := m_X7_strayOf) (as := [.ref 123, .int 1]) (rest := [.long (31 * h51)]) rfl rfl (Hy 1 (by decide) s49 g50) (fun r s52 q => ?_)
  obtain ⟨rfl, g53⟩ := q
  show UP m_X7_digest 110 [some (.ref 123), some (.long h51), none, some (.int 0)] [.int (ky 1), .long (31 * h51)] s52 _
  refine UP.stp 3 (i1 := 113) (L1 := [some (.ref 123), some (.long (31 * h51 + (ky 1).toInt64)), none, some (.int 0)]) (st1 := []) (s1 := s52) rfl ?_
  rw [fd_c]
  generalize 31 * h51 + (ky 1).toInt64 = h54
  refine UP.stp 4 (i1 := 117) (L1 := [some (.ref 123), some (.long h54), none, some (.int 0)]) (st1 := [.ref 123, .long (31 * h54)]) (s1 := s52) rfl ?_
  refine UP.call (M1 := m_X7_bestOf) (as := [.ref 123]) (rest := [.long (31 * h54)]) rfl rfl (Hb s52 g53) (fun r s55 q => ?_)
  obtain ⟨rfl, g56⟩ := q
  show UP m_X7_digest 118 [some (.ref 123), some (.long h54), none, some (.int 0)] [.int (-1 : Int32), .long (31 * h54)] s55 _
  refine UP.stp 3 (i1 := 121) (L1 := [some (.ref 123), some (.long (31 * h54 + (-1 : Int32).toInt64)), none, some (.int 0)]) (st1 := []) (s1 := s55) rfl ?_
  rw [fd_c]
  generalize 31 * h54 + (-1 : Int32).toInt64 = h57
  refine UP.stp 4 (i1 := 125) (L1 := [some (.ref 123), some (.long h57), none, some (.int 0)]) (st1 := [.ref 123, .long (31 * h57)]) (s1 := s55) rfl ?_
  refine UP.call (M1 := m_X7_idleOf) (as := [.ref 123]) (rest := [.long (31 * h57)]) rfl rfl (Hi s55 g56) (fun r s58 q => ?_)
  obtain ⟨rfl, g59⟩ := q
  show UP m_X7_digest 126 [some (.ref 123), some (.long h57), none, some (.int 0)] [.int ki, .long (31 * h57)] s58 _
  refine UP.stp 3 (i1 := 129) (L1 := [some (.ref 123), some (.long (31 * h57 + ki.toInt64)), none, some (.int 0)]) (st1 := []) (s1 := s58) rfl ?_
  rw [fd_c]
  generalize 31 * h57 + ki.toInt64 = h60
  refine UP.stp 4 (i1 := 133) (L1 := [some (.ref 123), some (.long h60), none, some (.int 0)]) (st1 := [.int 3, .int 0]) (s1 := s58) rfl ?_
  refine UP.icF rfl (by decide) ?_
  refine UP.stp 5 (i1 := 139) (L1 := [some (.ref 123), some (.long h60), none, some (.int 0)]) (st1 := [.int 0, .ref 123, .long (31 * h60)]) (s1 := s58) rfl ?_
  refine UP.call (M1 := m_X7_swapOf) (as := [.ref 123, .int 0]) (rest := [.long (31 * h60)]) rfl rfl (Hw 0 (by decide) s58 g59) (fun r s61 q => ?_)
  obtain ⟨rfl, g62⟩ := q
  show UP m_X7_digest 140 [some (.ref 123), some (.long h60), none, some (.int 0)] [.int (kw 0), .long (31 * h60)] s61 _
  refine UP.stp 3 (i1 := 143) (L1 := [some (.ref 123), some (.long (31 * h60 + (kw 0).toInt64)), none, some (.int 0)]) (st1 := []) (s1 := s61) rfl ?_
  rw [fd_c]
  generalize 31 * h60 + (kw 0).toInt64 = h63
  refine UP.stp 4 (i1 := 133) (L1 := [some (.ref 123), some (.long h63), none, some (.int 1)]) (st1 := [.int 3, .int 1]) (s1 := s61) rfl ?_
  refine UP.icF rfl (by decide) ?_
  refine UP.stp 5 (i1 := 139) (L1 := [some (.ref 123), some (.long h63), none, some (.int 1)]) (st1 := [.int 1, .ref 123, .long (31 * h63)]) (s1 := s61) rfl ?_
  refine UP.call (M1 := m_X7_swapOf) (as := [.ref 123, .int 1]) (rest := [.long (31 * h63)]) rfl rfl (Hw 1 (by decide) s61 g62) (fun r s64 q => ?_)
  obtain ⟨rfl, g65⟩ := q
  show UP m_X7_digest 140 [some (.ref 123), some (.long h63), none, some (.int 1)] [.int (kw 1), .long (31 * h63)] s64 _
  refine UP.stp 3 (i1 := 143) (L1 := [some (.ref 123), some (.long (31 * h63 + (kw 1).toInt64)), none, some (.int 1)]) (st1 := []) (s1 := s64) rfl ?_
  rw [fd_c]
  generalize 31 * h63 + (kw 1).toInt64 = h66
  refine UP.stp 4 (i1 := 133) (L1 := [some (.ref 123), some (.long h66), none, some (.int 2)]) (st1 := [.int 3, .int 2]) (s1 := s64) rfl ?_
  refine UP.icF rfl (by decide) ?_
  refine UP.stp 5 (i1 := 139) (L1 := [some (.ref 123), some (.long h66), none, some (.int 2)]) (st1 := [.int 2, .ref 123, .long (31 * h66)]) (s1 := s64) rfl ?_
  refine UP.call (M1 := m_X7_swapOf) (as := [.ref 123, .int 2]) (rest := [.long (31 * h66)]) rfl rfl (Hw 2 (by decide) s64 g65) (fun r s67 q => ?_)
  obtain ⟨rfl, g68⟩ := q
  show UP m_X7_digest 140 [some (.ref 123), some (.long h66), none, some (.int 2)] [.int (kw 2), .long (31 * h66)] s67 _
  refine UP.stp 3 (i1 := 143) (L1 := [some (.ref 123), some (.long (31 * h66 + (kw 2).toInt64)), none, some (.int 2)]) (st1 := []) (s1 := s67) rfl ?_
  rw [fd_c]
  generalize 31 * h66 + (kw 2).toInt64 = h69
  refine UP.stp 4 (i1 := 133) (L1 := [some (.ref 123), some (.long h69), none, some (.int 3)]) (st1 := [.int 3, .int 3]) (s1 := s67) rfl ?_
  refine UP.icT rfl (by decide) ?_
  refine UP.stp 1 (i1 := 146) (L1 := [some (.ref 123), some (.long h69), none, some (.int 3)]) (st1 := [.ref 123]) (s1 := s67) rfl ?_
  refine UP.call (M1 := m_X7_spareBy) (as := [.ref 123]) (rest := []) rfl rfl (Hp s67 g68) (fun r s70 q => ?_)
  obtain ⟨rfl, g71, eo⟩ := q
  show UP m_X7_digest 147 [some (.ref 123), some (.long h69), none, some (.int 3)] [.int p0] s70 _
  refine UP.stp 8 (i1 := 155) (L1 := [some (.ref 123), some (.long (31 * h69 + p0.toInt64)), none, some (.int p0)]) (st1 := []) (s1 := s70) rfl ?_
  rw [fd_c]
  generalize 31 * h69 + p0.toInt64 = h72
  refine UP.stp 6 (i1 := 161) (L1 := [some (.ref 123), some (.long h72), none, some (.int p0)]) (st1 := [.int 0, .int p0, .ref 123, .long (31 * h72)]) (s1 := s70) rfl ?_
  refine UP.call (M1 := m_X7_ofRow) (as := [.ref 123, .int p0, .int 0]) (rest := [.long (31 * h72)]) rfl rfl ((ux_ofRow s70 p0 0).mono (P := fun r s1 => r = some (.int p1) ∧ gdM b s1) (fun r s1 q => ⟨by rw [q.1, eo], by rw [q.2]; exact g71⟩)) (fun r s73 q => ?_)
  obtain ⟨rfl, g74⟩ := q
  show UP m_X7_digest 162 [some (.ref 123), some (.long h72), none, some (.int p0)] [.int p1, .long (31 * h72)] s73 _
  refine UP.stp 3 (i1 := 165) (L1 := [some (.ref 123), some (.long (31 * h72 + p1.toInt64)), none, some (.int p0)]) (st1 := []) (s1 := s73) rfl ?_
  rw [fd_c]
  generalize 31 * h72 + p1.toInt64 = h75
  refine UP.stp 4 (i1 := 169) (L1 := [some (.ref 123), some (.long h75), none, some (.int p0)]) (st1 := [.ref 123, .long (31 * h75)]) (s1 := s73) rfl ?_
  refine UP.call (M1 := m_X7_neverNow) (as := [.ref 123]) (rest := [.long (31 * h75)]) rfl rfl (Hv s73 g74) (fun r s76 q => ?_)
  obtain ⟨rfl, g77⟩ := q
  show UP m_X7_digest 170 [some (.ref 123), some (.long h75), none, some (.int p0)] [.int kv, .long (31 * h75)] s76 _
  refine UP.stp 3 (i1 := 173) (L1 := [some (.ref 123), some (.long (31 * h75 + kv.toInt64)), none, some (.int p0)]) (st1 := []) (s1 := s76) rfl ?_
  rw [fd_c]
  generalize 31 * h75 + kv.toInt64 = h78
  refine UP.stp 7 (i1 := 180) (L1 := [some (.ref 123), some (.long h78), none, some (.int p0)]) (st1 := [.int 0, .int 18, .int 7, .ref 123, .long (31 * h78)]) (s1 := s76) rfl ?_
  refine UP.call (M1 := m_X7_yearsOf) (as := [.ref 123, .int 7, .int 18, .int 0]) (rest := [.long (31 * h78)]) rfl rfl (He 0 (by decide) s76 g77) (fun r s79 q => ?_)
  obtain ⟨rfl, g80⟩ := q
  show UP m_X7_digest 181 [some (.ref 123), some (.long h78), none, some (.int p0)] [.int (ke 0), .long (31 * h78)] s79 _
  refine UP.stp 3 (i1 := 184) (L1 := [some (.ref 123), some (.long (31 * h78 + (ke 0).toInt64)), none, some (.int p0)]) (st1 := []) (s1 := s79) rfl ?_
  rw [fd_c]
  generalize 31 * h78 + (ke 0).toInt64 = h81
  refine UP.stp 7 (i1 := 191) (L1 := [some (.ref 123), some (.long h81), none, some (.int p0)]) (st1 := [.int 1, .int 18, .int 7, .ref 123, .long (31 * h81)]) (s1 := s79) rfl ?_
  refine UP.call (M1 := m_X7_yearsOf) (as := [.ref 123, .int 7, .int 18, .int 1]) (rest := [.long (31 * h81)]) rfl rfl (He 1 (by decide) s79 g80) (fun r s82 q => ?_)
  obtain ⟨rfl, g83⟩ := q
  show UP m_X7_digest 192 [some (.ref 123), some (.long h81), none, some (.int p0)] [.int (ke 1), .long (31 * h81)] s82 _
  refine UP.stp 2 (i1 := 194) (L1 := [some (.ref 123), some (.long h81), none, some (.int p0)]) (st1 := [.long (31 * h81 + (ke 1).toInt64)]) (s1 := s82) rfl ?_
  rw [fd_c, fd_n]
  exact UP.ret (r := some (.long (31 * h81 + (ke 1).toInt64))) rfl ⟨rfl, g83⟩
