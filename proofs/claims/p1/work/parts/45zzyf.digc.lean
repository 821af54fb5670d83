/-! DIGEST: the same sum of the same answers on both sides -/
def fd (h : Int64) (l : List Int64) : Int64 := l.foldl (fun h v => 31 * h + v) h
theorem fd_c (h v : Int64) (l : List Int64) : fd h (v :: l) = fd (31 * h + v) l := rfl
theorem fd_n (h : Int64) : fd h [] = h := rfl
theorem fd_a (h : Int64) (l m : List Int64) : fd h (l ++ m) = fd (fd h l) m := List.foldl_append
def PoC (b : SG) (T : Int64) (r : Option Value) (s1 : SG) : Prop := r = some (.long T) ∧ gdC b s1
def PoM (b : SG) (T : Int64) (r : Option Value) (s1 : SG) : Prop := r = some (.long T) ∧ gdM b s1
def PoZ (b : SG) (T : Int64) (r : Option Value) (s1 : SG) : Prop := r = some (.long T) ∧ gdM b s1 ∧ s1 123 2 = 0
theorem blT {t : Nat} (h : t < 24) : bl (Int32.ofNat t) 24 = true := bl_iff.mpr (by
  rw [ofn_int (by omega)]
  have e : (24 : Int32).toInt = 24 := by decide
  omega)
theorem geT {t : Nat} (h : t < 24) : m_cmp .ge (Int32.ofNat t) 24 = false := geF' (N := 24) h (by decide)
def mvL (kc ka : Int32 → Int32 → Int32) (t : Nat) : List Int64 := [(kc (Int32.ofNat t) 0).toInt64, (kc (Int32.ofNat t) 1).toInt64, (ka (Int32.ofNat t) 0).toInt64, (ka (Int32.ofNat t) 1).toInt64, (ka (Int32.ofNat t) 2).toInt64, (ka (Int32.ofNat t) 3).toInt64, (ka (Int32.ofNat t) 4).toInt64]
def mlL (kc ka : Int32 → Int32 → Int32) : Nat → Nat → List Int64
  | 0, _ => []
  | n + 1, t => mvL kc ka t ++ mlL kc ka n (t + 1)
def plL (ks kk : Int32 → Int32 → Int32) (kh : Int32 → Int32 → Int64) (m : Int32) : List Int64 := [(ks m 0).toInt64, (ks m 1).toInt64, (kk m 0).toInt64, (kk m 1).toInt64, kh m 0, kh m 1]
def whL (kg ky kw ke : Int32 → Int32) (kt ki p0 p1 kv : Int32) : List Int64 := [kt.toInt64, (kg 0).toInt64, (kg 1).toInt64, (ky 0).toInt64, (ky 1).toInt64, (-1 : Int32).toInt64, ki.toInt64, (kw 0).toInt64, (kw 1).toInt64, (kw 2).toInt64, p0.toInt64, p1.toInt64, kv.toInt64, (ke 0).toInt64, (ke 1).toInt64]
def nfL (kn kf : Int32 → Int32) : List Int64 := [(kn 0).toInt64, (kn 1).toInt64, (kn 2).toInt64, (kn 3).toInt64, (kn 4).toInt64, (kn 5).toInt64, (kn 6).toInt64, (kn 7).toInt64, (kf 0).toInt64, (kf 1).toInt64, (kf 2).toInt64]
theorem ml_s (kc ka : Int32 → Int32 → Int32) (n t : Nat) : mlL kc ka (n + 1) t = (kc (Int32.ofNat t) 0).toInt64 :: (kc (Int32.ofNat t) 1).toInt64 :: (ka (Int32.ofNat t) 0).toInt64 :: (ka (Int32.ofNat t) 1).toInt64 :: (ka (Int32.ofNat t) 2).toInt64 :: (ka (Int32.ofNat t) 3).toInt64 :: (ka (Int32.ofNat t) 4).toInt64 :: mlL kc ka n (t + 1) := rfl
theorem dC_min {b : SG} {kc ka : Int32 → Int32 → Int32} (Hc : ∀ a c, bl a 24 = true → bl c 2 = true → VC b m_X6_call [.int a, .int c] (.int (kc a c))) (Ha : ∀ a c, bl a 24 = true → bl c 5 = true → VC b m_X6_at [.int a, .int c] (.int (ka a c))) (h0 : Int64) : ∀ (n t : Nat) (h : Int64) (u6 : Option Value) (s : SG), t + n = 24 → gdC b s → UP m_X6_addMinutes 4 [some (.ref 0), some (.long h0), none, some (.long h), none, some (.int (Int32.ofNat t)), u6] [] s (PoC b (fd h (mlL kc ka n t))) := by
  intro n
  induction n with
  | zero =>
    intro t h u6 s ht g
    have ht : t = 24 := by omega
    subst ht
    refine UP.stp 2 (i1 := 6) (L1 := [some (.ref 0), some (.long h0), none, some (.long h), none, some (.int (Int32.ofNat 24)), u6]) (st1 := [.int 24, .int (Int32.ofNat 24)]) (s1 := s) rfl ?_
    refine UP.icT rfl (by decide) ?_
    refine UP.stp 1 (i1 := 47) (L1 := [some (.ref 0), some (.long h0), none, some (.long h), none, some (.int (Int32.ofNat 24)), u6]) (st1 := [.long h]) (s1 := s) rfl ?_
    exact UP.ret rfl ⟨rfl, g⟩
  | succ n ih =>
    intro t h u6 s hn g
    have ht : t < 24 := by omega
    rw [ml_s]
    refine UP.stp 2 (i1 := 6) (L1 := [some (.ref 0), some (.long h0), none, some (.long h), none, some (.int (Int32.ofNat t)), u6]) (st1 := [.int 24, .int (Int32.ofNat t)]) (s1 := s) rfl ?_
    refine UP.icF rfl (geT ht) ?_
    refine UP.stp 6 (i1 := 13) (L1 := [some (.ref 0), some (.long h0), none, some (.long h), none, some (.int (Int32.ofNat t)), u6]) (st1 := [.int 0, .int (Int32.ofNat t), .ref 0, .long (31 * h)]) (s1 := s) rfl ?_
    refine UP.call (M1 := m_X6_call) (as := [.ref 0, .int (Int32.ofNat t), .int 0]) (rest := [.long (31 * h)]) rfl rfl (Hc (Int32.ofNat t) 0 (blT ht) (by decide) s g) (fun r s1 q => ?_)
    obtain ⟨rfl, g2⟩ := q
    show UP m_X6_addMinutes 14 [some (.ref 0), some (.long h0), none, some (.long h), none, some (.int (Int32.ofNat t)), u6] [.int (kc (Int32.ofNat t) 0), .long (31 * h)] s1 _
    refine UP.stp 3 (i1 := 17) (L1 := [some (.ref 0), some (.long h0), none, some (.long (31 * h + (kc (Int32.ofNat t) 0).toInt64)), none, some (.int (Int32.ofNat t)), u6]) (st1 := []) (s1 := s1) rfl ?_
    rw [fd_c]
    generalize 31 * h + (kc (Int32.ofNat t) 0).toInt64 = h3
    refine UP.stp 6 (i1 := 23) (L1 := [some (.ref 0), some (.long h0), none, some (.long h3), none, some (.int (Int32.ofNat t)), u6]) (st1 := [.int 1, .int (Int32.ofNat t), .ref 0, .long (31 * h3)]) (s1 := s1) rfl ?_
    refine UP.call (M1 := m_X6_call) (as := [.ref 0, .int (Int32.ofNat t), .int 1]) (rest := [.long (31 * h3)]) rfl rfl (Hc (Int32.ofNat t) 1 (blT ht) (by decide) s1 g2) (fun r s4 q => ?_)
    obtain ⟨rfl, g5⟩ := q
    show UP m_X6_addMinutes 24 [some (.ref 0), some (.long h0), none, some (.long h3), none, some (.int (Int32.ofNat t)), u6] [.int (kc (Int32.ofNat t) 1), .long (31 * h3)] s4 _
    refine UP.stp 3 (i1 := 27) (L1 := [some (.ref 0), some (.long h0), none, some (.long (31 * h3 + (kc (Int32.ofNat t) 1).toInt64)), none, some (.int (Int32.ofNat t)), u6]) (st1 := []) (s1 := s4) rfl ?_
    rw [fd_c]
    generalize 31 * h3 + (kc (Int32.ofNat t) 1).toInt64 = h6
    refine UP.stp 4 (i1 := 31) (L1 := [some (.ref 0), some (.long h0), none, some (.long h6), none, some (.int (Int32.ofNat t)), some (.int 0)]) (st1 := [.int 5, .int 0]) (s1 := s4) rfl ?_
    refine UP.icF rfl (by decide) ?_
    refine UP.stp 6 (i1 := 38) (L1 := [some (.ref 0), some (.long h0), none, some (.long h6), none, some (.int (Int32.ofNat t)), some (.int 0)]) (st1 := [.int 0, .int (Int32.ofNat t), .ref 0, .long (31 * h6)]) (s1 := s4) rfl ?_
    refine UP.call (M1 := m_X6_at) (as := [.ref 0, .int (Int32.ofNat t), .int 0]) (rest := [.long (31 * h6)]) rfl rfl (Ha (Int32.ofNat t) 0 (blT ht) (by decide) s4 g5) (fun r s7 q => ?_)
    obtain ⟨rfl, g8⟩ := q
    show UP m_X6_addMinutes 39 [some (.ref 0), some (.long h0), none, some (.long h6), none, some (.int (Int32.ofNat t)), some (.int 0)] [.int (ka (Int32.ofNat t) 0), .long (31 * h6)] s7 _
    refine UP.stp 3 (i1 := 42) (L1 := [some (.ref 0), some (.long h0), none, some (.long (31 * h6 + (ka (Int32.ofNat t) 0).toInt64)), none, some (.int (Int32.ofNat t)), some (.int 0)]) (st1 := []) (s1 := s7) rfl ?_
    rw [fd_c]
    generalize 31 * h6 + (ka (Int32.ofNat t) 0).toInt64 = h9
    refine UP.stp 4 (i1 := 31) (L1 := [some (.ref 0), some (.long h0), none, some (.long h9), none, some (.int (Int32.ofNat t)), some (.int 1)]) (st1 := [.int 5, .int 1]) (s1 := s7) rfl ?_
    refine UP.icF rfl (by decide) ?_
    refine UP.stp 6 (i1 := 38) (L1 := [some (.ref 0), some (.long h0), none, some (.long h9), none, some (.int (Int32.ofNat t)), some (.int 1)]) (st1 := [.int 1, .int (Int32.ofNat t), .ref 0, .long (31 * h9)]) (s1 := s7) rfl ?_
    refine UP.call (M1 := m_X6_at) (as := [.ref 0, .int (Int32.ofNat t), .int 1]) (rest := [.long (31 * h9)]) rfl rfl (Ha (Int32.ofNat t) 1 (blT ht) (by decide) s7 g8) (fun r s10 q => ?_)
    obtain ⟨rfl, g11⟩ := q
    show UP m_X6_addMinutes 39 [some (.ref 0), some (.long h0), none, some (.long h9), none, some (.int (Int32.ofNat t)), some (.int 1)] [.int (ka (Int32.ofNat t) 1), .long (31 * h9)] s10 _
    refine UP.stp 3 (i1 := 42) (L1 := [some (.ref 0), some (.long h0), none, some (.long (31 * h9 + (ka (Int32.ofNat t) 1).toInt64)), none, some (.int (Int32.ofNat t)), some (.int 1)]) (st1 := []) (s1 := s10) rfl ?_
    rw [fd_c]
    generalize 31 * h9 + (ka (Int32.ofNat t) 1).toInt64 = h12
    refine UP.stp 4 (i1 := 31) (L1 := [some (.ref 0), some (.long h0), none, some (.long h12), none, some (.int (Int32.ofNat t)), some (.int 2)]) (st1 := [.int 5, .int 2]) (s1 := s10) rfl ?_
    refine UP.icF rfl (by decide) ?_
    refine UP.stp 6 (i1 := 38) (L1 := [some (.ref 0), some (.long h0), none, some (.long h12), none, some (.int (Int32.ofNat t)), some (.int 2)]) (st1 := [.int 2, .int (Int32.ofNat t), .ref 0, .long (31 * h12)]) (s1 := s10) rfl ?_
    refine UP.call (M1 := m_X6_at) (as := [.ref 0, .int (Int32.ofNat t), .int 2]) (rest := [.long (31 * h12)]) rfl rfl (Ha (Int32.ofNat t) 2 (blT ht) (by decide) s10 g11) (fun r s13 q => ?_)
    obtain ⟨rfl, g14⟩ := q
    show UP m_X6_addMinutes 39 [some (.ref 0), some (.long h0), none, some (.long h12), none, some (.int (Int32.ofNat t)), some (.int 2)] [.int (ka (Int32.ofNat t) 2), .long (31 * h12)] s13 _
    refine UP.stp 3 (i1 := 42) (L1 := [some (.ref 0), some (.long h0), none, some (.long (31 * h12 + (ka (Int32.ofNat t) 2).toInt64)), none, some (.int (Int32.ofNat t)), some (.int 2)]) (st1 := []) (s1 := s13) rfl ?_
    rw [fd_c]
    generalize 31 * h12 + (ka (Int32.ofNat t) 2).toInt64 = h15
    refine UP.stp 4 (i1 := 31) (L1 := [some (.ref 0), some (.long h0), none, some (.long h15), none, some (.int (Int32.ofNat t)), some (.int 3)]) (st1 := [.int 5, .int 3]) (s1 := s13) rfl ?_
    refine UP.icF rfl (by decide) ?_
    refine UP.stp 6 (i1 := 38) (L1 := [some (.ref 0), some (.long h0), none, some (.long h15), none, some (.int (Int32.ofNat t)), some (.int 3)]) (st1 := [.int 3, .int (Int32.ofNat t), .ref 0, .long (31 * h15)]) (s1 := s13) rfl ?_
    refine UP.call (M1 := m_X6_at) (as := [.ref 0, .int (Int32.ofNat t), .int 3]) (rest := [.long (31 * h15)]) rfl rfl (Ha (Int32.ofNat t) 3 (blT ht) (by decide) s13 g14) (fun r s16 q => ?_)
    obtain ⟨rfl, g17⟩ := q
    show UP m_X6_addMinutes 39 [some (.ref 0), some (.long h0), none, some (.long h15), none, some (.int (Int32.ofNat t)), some (.int 3)] [.int (ka (Int32.ofNat t) 3), .long (31 * h15)] s16 _
    refine UP.stp 3 (i1 := 42) (L1 := [some (.ref 0), some (.long h0), none, some (.long (31 * h15 + (ka (Int32.ofNat t) 3).toInt64)), none, some (.int (Int32.ofNat t)), some (.int 3)]) (st1 := []) (s1 := s16) rfl ?_
    rw [fd_c]
    generalize 31 * h15 + (ka (Int32.ofNat t) 3).toInt64 = h18
    refine UP.stp 4 (i1 := 31) (L1 := [some (.ref 0), some (.long h0), none, some (.long h18), none, some (.int (Int32.ofNat t)), some (.int 4)]) (st1 := [.int 5, .int 4]) (s1 := s16) rfl ?_
    refine UP.icF rfl (by decide) ?_
    refine UP.stp 6 (i1 := 38) (L1 := [some (.ref 0), some (.long h0), none, some (.long h18), none, some (.int (Int32.ofNat t)), some (.int 4)]) (st1 := [.int 4, .int (Int32.ofNat t), .ref 0, .long (31 * h18)]) (s1 := s16) rfl ?_
    refine UP.call (M1 := m_X6_at) (as := [.ref 0, .int (Int32.ofNat t), .int 4]) (rest := [.long (31 * h18)]) rfl rfl (Ha (Int32.ofNat t) 4 (blT ht) (by decide) s16 g17) (fun r s19 q => ?_)
    obtain ⟨rfl, g20⟩ := q
    show UP m_X6_addMinutes 39 [some (.ref 0), some (.long h0), none, some (.long h18), none, some (.int (Int32.ofNat t)), some (.int 4)] [.int (ka (Int32.ofNat t) 4), .long (31 * h18)] s19 _
    refine UP.stp 3 (i1 := 42) (L1 := [some (.ref 0), some (.long h0), none, some (.long (31 * h18 + (ka (Int32.ofNat t) 4).toInt64)), none, some (.int (Int32.ofNat t)), some (.int 4)]) (st1 := []) (s1 := s19) rfl ?_
    rw [fd_c]
    generalize 31 * h18 + (ka (Int32.ofNat t) 4).toInt64 = h21
    refine UP.stp 4 (i1 := 31) (L1 := [some (.ref 0), some (.long h0), none, some (.long h21), none, some (.int (Int32.ofNat t)), some (.int 5)]) (st1 := [.int 5, .int 5]) (s1 := s19) rfl ?_
    refine UP.icT rfl (by decide) ?_
    refine UP.stp 2 (i1 := 4) (L1 := [some (.ref 0), some (.long h0), none, some (.long h21), none, some (.int (Int32.ofNat t + 1)), some (.int 5)]) (st1 := []) (s1 := s19) rfl ?_
    rw [ofn_s]
    exact ih (t + 1) _ _ _ (by omega) g20
theorem dC_minutes {b : SG} {kc ka : Int32 → Int32 → Int32} (Hc : ∀ a c, bl a 24 = true → bl c 2 = true → VC b m_X6_call [.int a, .int c] (.int (kc a c))) (Ha : ∀ a c, bl a 24 = true → bl c 5 = true → VC b m_X6_at [.int a, .int c] (.int (ka a c))) (h : Int64) (s : SG) (g : gdC b s) : UP m_X6_addMinutes 0 [some (.ref 0), some (.long h), none, none, none, none, none] [] s (PoC b (fd h (mlL kc ka 24 0))) := by
  refine UP.stp 4 (i1 := 4) (L1 := [some (.ref 0), some (.long h), none, some (.long h), none, some (.int (Int32.ofNat 0)), none]) (st1 := []) (s1 := s) rfl ?_
  exact dC_min Hc Ha h 24 0 h none s rfl g
theorem dC_plan2 {b : SG} {ks kk : Int32 → Int32 → Int32} {kh : Int32 → Int32 → Int64} (Hs : ∀ a c, bl a 24 = true → bl c 2 = true → VC b m_X6_steer [.int a, .int c] (.int (ks a c))) (Hk : ∀ a c, bl a 24 = true → bl c 2 = true → VC b m_X6_stroke [.int a, .int c] (.int (kk a c))) (Hh : ∀ a c, bl a 24 = true → bl c 2 = true → VC b m_X6_chance [.int 5, .int a, .int c] (.long (kh a c))) (h : Int64) (s : SG) (g : gdC b s) : UP m_X6_addPlans 0 [some (.ref 0), some (.long h), none, some (.int 2), none, none] [] s (PoC b (fd h (plL ks kk kh 2))) := by
  unfold plL
  refine UP.stp 8 (i1 := 8) (L1 := [some (.ref 0), some (.long h), none, some (.int 2), some (.long h), none]) (st1 := [.int 0, .int 2, .ref 0, .long (31 * h)]) (s1 := s) rfl ?_
  refine UP.call (M1 := m_X6_steer) (as := [.ref 0, .int 2, .int 0]) (rest := [.long (31 * h)]) rfl rfl (Hs 2 0 (by decide) (by decide) s g) (fun r s1 q => ?_)
  obtain ⟨rfl, g2⟩ := q
  show UP m_X6_addPlans 9 [some (.ref 0), some (.long h), none, some (.int 2), some (.long h), none] [.int (ks 2 0), .long (31 * h)] s1 _
  refine UP.stp 3 (i1 := 12) (L1 := [some (.ref 0), some (.long h), none, some (.int 2), some (.long (31 * h + (ks 2 0).toInt64)), none]) (st1 := []) (s1 := s1) rfl ?_
  rw [fd_c]
  generalize 31 * h + (ks 2 0).toInt64 = h3
  refine UP.stp 6 (i1 := 18) (L1 := [some (.ref 0), some (.long h), none, some (.int 2), some (.long h3), none]) (st1 := [.int 1, .int 2, .ref 0, .long (31 * h3)]) (s1 := s1) rfl ?_
  refine UP.call (M1 := m_X6_steer) (as := [.ref 0, .int 2, .int 1]) (rest := [.long (31 * h3)]) rfl rfl (Hs 2 1 (by decide) (by decide) s1 g2) (fun r s4 q => ?_)
  obtain ⟨rfl, g5⟩ := q
  show UP m_X6_addPlans 19 [some (.ref 0), some (.long h), none, some (.int 2), some (.long h3), none] [.int (ks 2 1), .long (31 * h3)] s4 _
  refine UP.stp 3 (i1 := 22) (L1 := [some (.ref 0), some (.long h), none, some (.int 2), some (.long (31 * h3 + (ks 2 1).toInt64)), none]) (st1 := []) (s1 := s4) rfl ?_
  rw [fd_c]
  generalize 31 * h3 + (ks 2 1).toInt64 = h6
  refine UP.stp 6 (i1 := 28) (L1 := [some (.ref 0), some (.long h), none, some (.int 2), some (.long h6), none]) (st1 := [.int 0, .int 2, .ref 0, .long (31 * h6)]) (s1 := s4) rfl ?_
  refine UP.call (M1 := m_X6_stroke) (as := [.ref 0, .int 2, .int 0]) (rest := [.long (31 * h6)]) rfl rfl (Hk 2 0 (by decide) (by decide) s4 g5) (fun r s7 q => ?_)
  obtain ⟨rfl, g8⟩ := q
  show UP m_X6_addPlans 29 [some (.ref 0), some (.long h), none, some (.int 2), some (.long h6), none] [.int (kk 2 0), .long (31 * h6)] s7 _
  refine UP.stp 3 (i1 := 32) (L1 := [some (.ref 0), some (.long h), none, some (.int 2), some (.long (31 * h6 + (kk 2 0).toInt64)), none]) (st1 := []) (s1 := s7) rfl ?_
  rw [fd_c]
  generalize 31 * h6 + (kk 2 0).toInt64 = h9
  refine UP.stp 6 (i1 := 38) (L1 := [some (.ref 0), some (.long h), none, some (.int 2), some (.long h9), none]) (st1 := [.int 1, .int 2, .ref 0, .long (31 * h9)]) (s1 := s7) rfl ?_
  refine UP.call (M1 := m_X6_stroke) (as := [.ref 0, .int 2, .int 1]) (rest := [.long (31 * h9)]) rfl rfl (Hk 2 1 (by decide) (by decide) s7 g8) (fun r s10 q => ?_)
  obtain ⟨rfl, g11⟩ := q
  show UP m_X6_addPlans 39 [some (.ref 0), some (.long h), none, some (.int 2), some (.long h9), none] [.int (kk 2 1), .long (31 * h9)] s10 _
  refine UP.stp 3 (i1 := 42) (L1 := [some (.ref 0), some (.long h), none, some (.int 2), some (.long (31 * h9 + (kk 2 1).toInt64)), none]) (st1 := []) (s1 := s10) rfl ?_
  rw [fd_c]
  generalize 31 * h9 + (kk 2 1).toInt64 = h12
  refine UP.stp 7 (i1 := 49) (L1 := [some (.ref 0), some (.long h), none, some (.int 2), some (.long h12), none]) (st1 := [.int 0, .int 2, .int 5, .ref 0, .long (31 * h12)]) (s1 := s10) rfl ?_
  refine UP.call (M1 := m_X6_chance) (as := [.ref 0, .int 5, .int 2, .int 0]) (rest := [.long (31 * h12)]) rfl rfl (Hh 2 0 (by decide) (by decide) s10 g11) (fun r s13 q => ?_)
  obtain ⟨rfl, g14⟩ := q
  show UP m_X6_addPlans 50 [some (.ref 0), some (.long h), none, some (.int 2), some (.long h12), none] [.long (kh 2 0), .long (31 * h12)] s13 _
  refine UP.stp 2 (i1 := 52) (L1 := [some (.ref 0), some (.long h), none, some (.int 2), some (.long (31 * h12 + (kh 2 0))), none]) (st1 := []) (s1 := s13) rfl ?_
  rw [fd_c]
  generalize 31 * h12 + (kh 2 0) = h15
  refine UP.stp 7 (i1 := 59) (L1 := [some (.ref 0), some (.long h), none, some (.int 2), some (.long h15), none]) (st1 := [.int 1, .int 2, .int 5, .ref 0, .long (31 * h15)]) (s1 := s13) rfl ?_
  refine UP.call (M1 := m_X6_chance) (as := [.ref 0, .int 5, .int 2, .int 1]) (rest := [.long (31 * h15)]) rfl rfl (Hh 2 1 (by decide) (by decide) s13 g14) (fun r s16 q => ?_)
  obtain ⟨rfl, g17⟩ := q
  show UP m_X6_addPlans 60 [some (.ref 0), some (.long h), none, some (.int 2), some (.long h15), none] [.long (kh 2 1), .long (31 * h15)] s16 _
  refine UP.stp 1 (i1 := 61) (L1 := [some (.ref 0), some (.long h), none, some (.int 2), some (.long h15), none]) (st1 := [.long (31 * h15 + (kh 2 1))]) (s1 := s16) rfl ?_
  rw [fd_c, fd_n]
  exact UP.ret (r := some (.long (31 * h15 + (kh 2 1)))) rfl ⟨rfl, g17⟩
theorem dC_plan10 {b : SG} {ks kk : Int32 → Int32 → Int32} {kh : Int32 → Int32 → Int64} (Hs : ∀ a c, bl a 24 = true → bl c 2 = true → VC b m_X6_steer [.int a, .int c] (.int (ks a c))) (Hk : ∀ a c, bl a 24 = true → bl c 2 = true → VC b m_X6_stroke [.int a, .int c] (.int (kk a c))) (Hh : ∀ a c, bl a 24 = true → bl c 2 = true → VC b m_X6_chance [.int 5, .int a, .int c] (.long (kh a c))) (h : Int64) (s : SG) (g : gdC b s) : UP m_X6_addPlans 0 [some (.ref 0), some (.long h), none, some (.int 10), none, none] [] s (PoC b (fd h (plL ks kk kh 10))) := by
  unfold plL
  refine UP.stp 8 (i1 := 8) (L1 := [some (.ref 0), some (.long h), none, some (.int 10), some (.long h), none]) (st1 := [.int 0, .int 10, .ref 0, .long (31 * h)]) (s1 := s) rfl ?_
  refine UP.call (M1 := m_X6_steer) (as := [.ref 0, .int 10, .int 0]) (rest := [.long (31 * h)]) rfl rfl (Hs 10 0 (by decide) (by decide) s g) (fun r s1 q => ?_)
  obtain ⟨rfl, g2⟩ := q
  show UP m_X6_addPlans 9 [some (.ref 0), some (.long h), none, some (.int 10), some (.long h), none] [.int (ks 10 0), .long (31 * h)] s1 _
  refine UP.stp 3 (i1 := 12) (L1 := [some (.ref 0), some (.long h), none, some (.int 10), some (.long (31 * h + (ks 10 0).toInt64)), none]) (st1 := []) (s1 := s1) rfl ?_
  rw [fd_c]
  generalize 31 * h + (ks 10 0).toInt64 = h3
  refine UP.stp 6 (i1 := 18) (L1 := [some (.ref 0), some (.long h), none, some (.int 10), some (.long h3), none]) (st1 := [.int 1, .int 10, .ref 0, .long (31 * h3)]) (s1 := s1) rfl ?_
  refine UP.call (M1 := m_X6_steer) (as := [.ref 0, .int 10, .int 1]) (rest := [.long (31 * h3)]) rfl rfl (Hs 10 1 (by decide) (by decide) s1 g2) (fun r s4 q => ?_)
  obtain ⟨rfl, g5⟩ := q
  show UP m_X6_addPlans 19 [some (.ref 0), some (.long h), none, some (.int 10), some (.long h3), none] [.int (ks 10 1), .long (31 * h3)] s4 _
  refine UP.stp 3 (i1 := 22) (L1 := [some (.ref 0), some (.long h), none, some (.int 10), some (.long (31 * h3 + (ks 10 1).toInt64)), none]) (st1 := []) (s1 := s4) rfl ?_
  rw [fd_c]
  generalize 31 * h3 + (ks 10 1).toInt64 = h6
  refine UP.stp 6 (i1 := 28) (L1 := [some (.ref 0), some (.long h), none, some (.int 10), some (.long h6), none]) (st1 := [.int 0, .int 10, .ref 0, .long (31 * h6)]) (s1 := s4) rfl ?_
  refine UP.call (M1 := m_X6_stroke) (as := [.ref 0, .int 10, .int 0]) (rest := [.long (31 * h6)]) rfl rfl (Hk 10 0 (by decide) (by decide) s4 g5) (fun r s7 q => ?_)
  obtain ⟨rfl, g8⟩ := q
  show UP m_X6_addPlans 29 [some (.ref 0), some (.long h), none, some (.int 10), some (.long h6), none] [.int (kk 10 0), .long (31 * h6)] s7 _
  refine UP.stp 3 (i1 := 32) (L1 := [some (.ref 0), some (.long h), none, some (.int 10), some (.long (31 * h6 + (kk 10 0).toInt64)), none]) (st1 := []) (s1 := s7) rfl ?_
  rw [fd_c]
  generalize 31 * h6 + (kk 10 0).toInt64 = h9
  refine UP.stp 6 (i1 := 38) (L1 := [some (.ref 0), some (.long h), none, some (.int 10), some (.long h9), none]) (st1 := [.int 1, .int 10, .ref 0, .long (31 * h9)]) (s1 := s7) rfl ?_
  refine UP.call (M1 := m_X6_stroke) (as := [.ref 0, .int 10, .int 1]) (rest := [.long (31 * h9)]) rfl rfl (Hk 10 1 (by decide) (by decide) s7 g8) (fun r s10 q => ?_)
  obtain ⟨rfl, g11⟩ := q
  show UP m_X6_addPlans 39 [some (.ref 0), some (.long h), none, some (.int 10), some (.long h9), none] [.int (kk 10 1), .long (31 * h9)] s10 _
  refine UP.stp 3 (i1 := 42) (L1 := [some (.ref 0), some (.long h), none, some (.int 10), some (.long (31 * h9 + (kk 10 1).toInt64)), none]) (st1 := []) (s1 := s10) rfl ?_
  rw [fd_c]
  generalize 31 * h9 + (kk 10 1).toInt64 = h12
  refine UP.stp 7 (i1 := 49) (L1 := [some (.ref 0), some (.long h), none, some (.int 10), some (.long h12), none]) (st1 := [.int 0, .int 10, .int 5, .ref 0, .long (31 * h12)]) (s1 := s10) rfl ?_
  refine UP.call (M1 := m_X6_chance) (as := [.ref 0, .int 5, .int 10, .int 0]) (rest := [.long (31 * h12)]) rfl rfl (Hh 10 0 (by decide) (by decide) s10 g11) (fun r s13 q => ?_)
  obtain ⟨rfl, g14⟩ := q
  show UP m_X6_addPlans 50 [some (.ref 0), some (.long h), none, some (.int 10), some (.long h12), none] [.long (kh 10 0), .long (31 * h12)] s13 _
  refine UP.stp 2 (i1 := 52) (L1 := [some (.ref 0), some (.long h), none, some (.int 10), some (.long (31 * h12 + (kh 10 0))), none]) (st1 := []) (s1 := s13) rfl ?_
  rw [fd_c]
  generalize 31 * h12 + (kh 10 0) = h15
  refine UP.stp 7 (i1 := 59) (L1 := [some (.ref 0), some (.long h), none, some (.int 10), some (.long h15), none]) (st1 := [.int 1, .int 10, .int 5, .ref 0, .long (31 * h15)]) (s1 := s13) rfl ?_
  refine UP.call (M1 := m_X6_chance) (as := [.ref 0, .int 5, .int 10, .int 1]) (rest := [.long (31 * h15)]) rfl rfl (Hh 10 1 (by decide) (by decide) s13 g14) (fun r s16 q => ?_)
  obtain ⟨rfl, g17⟩ := q
  show UP m_X6_addPlans 60 [some (.ref 0), some (.long h), none, some (.int 10), some (.long h15), none] [.long (kh 10 1), .long (31 * h15)] s16 _
  refine UP.stp 1 (i1 := 61) (L1 := [some (.ref 0), some (.long h), none, some (.int 10), some (.long h15), none]) (st1 := [.long (31 * h15 + (kh 10 1))]) (s1 := s16) rfl ?_
  rw [fd_c, fd_n]
  exact UP.ret (r := some (.long (31 * h15 + (kh 10 1)))) rfl ⟨rfl, g17⟩
theorem dC_whole {b : SG} {kg ky kw ke : Int32 → Int32} {kt ki p0 p1 kv : Int32} (Ht : VC b m_X6_there [] (.int kt)) (Hg : ∀ a, bl a 2 = true → VC b m_X6_grounded [.int a] (.int (kg a))) (Hy : ∀ a, bl a 2 = true → VC b m_X6_stray [.int a] (.int (ky a))) (Hb : VC b m_X6_best [] (.int (-1))) (Hi : VC b m_X6_idle [] (.int ki)) (Hw : ∀ a, bl a 3 = true → VC b m_X6_swap [.int a] (.int (kw a))) (Hp : VC b m_X6_spare [.int (-1)] (.int p0)) (Hq : VC b m_X6_spare [.int 0] (.int p1)) (Hv : VC b m_X6_never [] (.int kv)) (He : ∀ a, bl a 2 = true → VC b m_X6_years [.int 7, .int 18, .int a] (.int (ke a))) (h : Int64) (s : SG) (g : gdC b s) : UP m_X6_addWhole 0 [some (.ref 0), some (.long h), none, none, none] [] s (PoC b (fd h (whL kg ky kw ke kt ki p0 p1 kv))) := by
  unfold whL
  refine UP.stp 6 (i1 := 6) (L1 := [some (.ref 0), some (.long h), none, some (.long h), none]) (st1 := [.ref 0, .long (31 * h)]) (s1 := s) rfl ?_
  refine UP.call (M1 := m_X6_there) (as := [.ref 0]) (rest := [.long (31 * h)]) rfl rfl (Ht s g) (fun r s1 q => ?_)
  obtain ⟨rfl, g2⟩ := q
  show UP m_X6_addWhole 7 [some (.ref 0), some (.long h), none, some (.long h), none] [.int kt, .long (31 * h)] s1 _
  refine UP.stp 3 (i1 := 10) (L1 := [some (.ref 0), some (.long h), none, some (.long (31 * h + kt.toInt64)), none]) (st1 := []) (s1 := s1) rfl ?_
  rw [fd_c]
  generalize 31 * h + kt.toInt64 = h3
  refine UP.stp 5 (i1 := 15) (L1 := [some (.ref 0), some (.long h), none, some (.long h3), none]) (st1 := [.int 0, .ref 0, .long (31 * h3)]) (s1 := s1) rfl ?_
  refine UP.call (M1 := m_X6_grounded) (as := [.ref 0, .int 0]) (rest := [.long (31 * h3)]) rfl rfl (Hg 0 (by decide) s1 g2) (fun r s4 q => ?_)
  obtain ⟨rfl, g5⟩ := q
  show UP m_X6_addWhole 16 [some (.ref 0), some (.long h), none, some (.long h3), none] [.int (kg 0), .long (31 * h3)] s4 _
  refine UP.stp 3 (i1 := 19) (L1 := [some (.ref 0), some (.long h), none, some (.long (31 * h3 + (kg 0).toInt64)), none]) (st1 := []) (s1 := s4) rfl ?_
  rw [fd_c]
  generalize 31 * h3 + (kg 0).toInt64 = h6
  refine UP.stp 5 (i1 := 24) (L1 := [some (.ref 0), some (.long h), none, some (.long h6), none]) (st1 := [.int 1, .ref 0, .long (31 * h6)]) (s1 := s4) rfl ?_
  refine UP.call (M1 := m_X6_grounded) (as := [.ref 0, .int 1]) (rest := [.long (31 * h6)]) rfl rfl (Hg 1 (by decide) s4 g5) (fun r s7 q => ?_)
  obtain ⟨rfl, g8⟩ := q
  show UP m_X6_addWhole 25 [some (.ref 0), some (.long h), none, some (.long h6), none] [.int (kg 1), .long (31 * h6)] s7 _
  refine UP.stp 3 (i1 := 28) (L1 := [some (.ref 0), some (.long h), none, some (.long (31 * h6 + (kg 1).toInt64)), none]) (st1 := []) (s1 := s7) rfl ?_
  rw [fd_c]
  generalize 31 * h6 + (kg 1).toInt64 = h9
  refine UP.stp 5 (i1 := 33) (L1 := [some (.ref 0), some (.long h), none, some (.long h9), none]) (st1 := [.int 0, .ref 0, .long (31 * h9)]) (s1 := s7) rfl ?_
  refine UP.call (M1 := m_X6_stray) (as := [.ref 0, .int 0]) (rest := [.long (31 * h9)]) rfl rfl (Hy 0 (by decide) s7 g8) (fun r s10 q => ?_)
  obtain ⟨rfl, g11⟩ := q
  show UP m_X6_addWhole 34 [some (.ref 0), some (.long h), none, some (.long h9), none] [.int (ky 0), .long (31 * h9)] s10 _
  refine UP.stp 3 (i1 := 37) (L1 := [some (.ref 0), some (.long h), none, some (.long (31 * h9 + (ky 0).toInt64)), none]) (st1 := []) (s1 := s10) rfl ?_
  rw [fd_c]
  generalize 31 * h9 + (ky 0).toInt64 = h12
  refine UP.stp 5 (i1 := 42) (L1 := [some (.ref 0), some (.long h), none, some (.long h12), none]) (st1 := [.int 1, .ref 0, .long (31 * h12)]) (s1 := s10) rfl ?_
  refine UP.call (M1 := m_X6_stray) (as := [.ref 0, .int 1]) (rest := [.long (31 * h12)]) rfl rfl (Hy 1 (by decide) s10 g11) (fun r s13 q => ?_)
  obtain ⟨rfl, g14⟩ := q
  show UP m_X6_addWhole 43 [some (.ref 0), some (.long h), none, some (.long h12), none] [.int (ky 1), .long (31 * h12)] s13 _
  refine UP.stp 3 (i1 := 46) (L1 := [some (.ref 0), some (.long h), none, some (.long (31 * h12 + (ky 1).toInt64)), none]) (st1 := []) (s1 := s13) rfl ?_
  rw [fd_c]
  generalize 31 * h12 + (ky 1).toInt64 = h15
  refine UP.stp 4 (i1 := 50) (L1 := [some (.ref 0), some (.long h), none, some (.long h15), none]) (st1 := [.ref 0, .long (31 * h15)]) (s1 := s13) rfl ?_
  refine UP.call (M1 := m_X6_best) (as := [.ref 0]) (rest := [.long (31 * h15)]) rfl rfl (Hb s13 g14) (fun r s16 q => ?_)
  obtain ⟨rfl, g17⟩ := q
  show UP m_X6_addWhole 51 [some (.ref 0), some (.long h), none, some (.long h15), none] [.int (-1 : Int32), .long (31 * h15)] s16 _
  refine UP.stp 3 (i1 := 54) (L1 := [some (.ref 0), some (.long h), none, some (.long (31 * h15 + (-1 : Int32).toInt64)), none]) (st1 := []) (s1 := s16) rfl ?_
  rw [fd_c]
  generalize 31 * h15 + (-1 : Int32).toInt64 = h18
  refine UP.stp 4 (i1 := 58) (L1 := [some (.ref 0), some (.long h), none, some (.long h18), none]) (st1 := [.ref 0, .long (31 * h18)]) (s1 := s16) rfl ?_
  refine UP.call (M1 := m_X6_idle) (as := [.ref 0]) (rest := [.long (31 * h18)]) rfl rfl (Hi s16 g17) (fun r s19 q => ?_)
  obtain ⟨rfl, g20⟩ := q
  show UP m_X6_addWhole 59 [some (.ref 0), some (.long h), none, some (.long h18), none] [.int ki, .long (31 * h18)] s19 _
  refine UP.stp 3 (i1 := 62) (L1 := [some (.ref 0), some (.long h), none, some (.long (31 * h18 + ki.toInt64)), none]) (st1 := []) (s1 := s19) rfl ?_
  rw [fd_c]
  generalize 31 * h18 + ki.toInt64 = h21
  refine UP.stp 5 (i1 := 67) (L1 := [some (.ref 0), some (.long h), none, some (.long h21), none]) (st1 := [.int 0, .ref 0, .long (31 * h21)]) (s1 := s19) rfl ?_
  refine UP.call (M1 := m_X6_swap) (as := [.ref 0, .int 0]) (rest := [.long (31 * h21)]) rfl rfl (Hw 0 (by decide) s19 g20) (fun r s22 q => ?_)
  obtain ⟨rfl, g23⟩ := q
  show UP m_X6_addWhole 68 [some (.ref 0), some (.long h), none, some (.long h21), none] [.int (kw 0), .long (31 * h21)] s22 _
  refine UP.stp 3 (i1 := 71) (L1 := [some (.ref 0), some (.long h), none, some (.long (31 * h21 + (kw 0).toInt64)), none]) (st1 := []) (s1 := s22) rfl ?_
  rw [fd_c]
  generalize 31 * h21 + (kw 0).toInt64 = h24
  refine UP.stp 5 (i1 := 76) (L1 := [some (.ref 0), some (.long h), none, some (.long h24), none]) (st1 := [.int 1, .ref 0, .long (31 * h24)]) (s1 := s22) rfl ?_
  refine UP.call (M1 := m_X6_swap) (as := [.ref 0, .int 1]) (rest := [.long (31 * h24)]) rfl rfl (Hw 1 (by decide) s22 g23) (fun r s25 q => ?_)
  obtain ⟨rfl, g26⟩ := q
  show UP m_X6_addWhole 77 [some (.ref 0), some (.long h), none, some (.long h24), none] [.int (kw 1), .long (31 * h24)] s25 _
  refine UP.stp 3 (i1 := 80) (L1 := [some (.ref 0), some (.long h), none, some (.long (31 * h24 + (kw 1).toInt64)), none]) (st1 := []) (s1 := s25) rfl ?_
  rw [fd_c]
  generalize 31 * h24 + (kw 1).toInt64 = h27
  refine UP.stp 5 (i1 := 85) (L1 := [some (.ref 0), some (.long h), none, some (.long h27), none]) (st1 := [.int 2, .ref 0, .long (31 * h27)]) (s1 := s25) rfl ?_
  refine UP.call (M1 := m_X6_swap) (as := [.ref 0, .int 2]) (rest := [.long (31 * h27)]) rfl rfl (Hw 2 (by decide) s25 g26) (fun r s28 q => ?_)
  obtain ⟨rfl, g29⟩ := q
  show UP m_X6_addWhole 86 [some (.ref 0), some (.long h), none, some (.long h27), none] [.int (kw 2), .long (31 * h27)] s28 _
  refine UP.stp 3 (i1 := 89) (L1 := [some (.ref 0), some (.long h), none, some (.long (31 * h27 + (kw 2).toInt64)), none]) (st1 := []) (s1 := s28) rfl ?_
  rw [fd_c]
  generalize 31 * h27 + (kw 2).toInt64 = h30
  refine UP.stp 5 (i1 := 94) (L1 := [some (.ref 0), some (.long h), none, some (.long h30), none]) (st1 := [.int (-1), .ref 0, .long (31 * h30)]) (s1 := s28) rfl ?_
  refine UP.call (M1 := m_X6_spare) (as := [.ref 0, .int (-1)]) (rest := [.long (31 * h30)]) rfl rfl (Hp s28 g29) (fun r s31 q => ?_)
  obtain ⟨rfl, g32⟩ := q
  show UP m_X6_addWhole 95 [some (.ref 0), some (.long h), none, some (.long h30), none] [.int p0, .long (31 * h30)] s31 _
  refine UP.stp 3 (i1 := 98) (L1 := [some (.ref 0), some (.long h), none, some (.long (31 * h30 + p0.toInt64)), none]) (st1 := []) (s1 := s31) rfl ?_
  rw [fd_c]
  generalize 31 * h30 + p0.toInt64 = h33
  refine UP.stp 5 (i1 := 103) (L1 := [some (.ref 0), some (.long h), none, some (.long h33), none]) (st1 := [.int 0, .ref 0, .long (31 * h33)]) (s1 := s31) rfl ?_
  refine UP.call (M1 := m_X6_spare) (as := [.ref 0, .int 0]) (rest := [.long (31 * h33)]) rfl rfl (Hq s31 g32) (fun r s34 q => ?_)
  obtain ⟨rfl, g35⟩ := q
  show UP m_X6_addWhole 104 [some (.ref 0), some (.long h), none, some (.long h33), none] [.int p1, .long (31 * h33)] s34 _
  refine UP.stp 3 (i1 := 107) (L1 := [some (.ref 0), some (.long h), none, some (.long (31 * h33 + p1.toInt64)), none]) (st1 := []) (s1 := s34) rfl ?_
  rw [fd_c]
  generalize 31 * h33 + p1.toInt64 = h36
  refine UP.stp 4 (i1 := 111) (L1 := [some (.ref 0), some (.long h), none, some (.long h36), none]) (st1 := [.ref 0, .long (31 * h36)]) (s1 := s34) rfl ?_
  refine UP.call (M1 := m_X6_never) (as := [.ref 0]) (rest := [.long (31 * h36)]) rfl rfl (Hv s34 g35) (fun r s37 q => ?_)
  obtain ⟨rfl, g38⟩ := q
  show UP m_X6_addWhole 112 [some (.ref 0), some (.long h), none, some (.long h36), none] [.int kv, .long (31 * h36)] s37 _
  refine UP.stp 3 (i1 := 115) (L1 := [some (.ref 0), some (.long h), none, some (.long (31 * h36 + kv.toInt64)), none]) (st1 := []) (s1 := s37) rfl ?_
  rw [fd_c]
  generalize 31 * h36 + kv.toInt64 = h39
  refine UP.stp 7 (i1 := 122) (L1 := [some (.ref 0), some (.long h), none, some (.long h39), none]) (st1 := [.int 0, .int 18, .int 7, .ref 0, .long (31 * h39)]) (s1 := s37) rfl ?_
  refine UP.call (M1 := m_X6_years) (as := [.ref 0, .int 7, .int 18, .int 0]) (rest := [.long (31 * h39)]) rfl rfl (He 0 (by decide) s37 g38) (fun r s40 q => ?_)
  obtain ⟨rfl, g41⟩ := q
  show UP m_X6_addWhole 123 [some (.ref 0), some (.long h), none, some (.long h39), none] [.int (ke 0), .long (31 * h39)] s40 _
  refine UP.stp 3 (i1 := 126) (L1 := [some (.ref 0), some (.long h), none, some (.long (31 * h39 + (ke 0).toInt64)), none]) (st1 := []) (s1 := s40) rfl ?_
  rw [fd_c]
  generalize 31 * h39 + (ke 0).toInt64 = h42
  refine UP.stp 7 (i1 := 133) (L1 := [some (.ref 0), some (.long h), none, some (.long h42), none]) (st1 := [.int 1, .int 18, .int 7, .ref 0, .long (31 * h42)]) (s1 := s40) rfl ?_
  refine UP.call (M1 := m_X6_years) (as := [.ref 0, .int 7, .int 18, .int 1]) (rest := [.long (31 * h42)]) rfl rfl (He 1 (by decide) s40 g41) (fun r s43 q => ?_)
  obtain ⟨rfl, g44⟩ := q
  show UP m_X6_addWhole 134 [some (.ref 0), some (.long h), none, some (.long h42), none] [.int (ke 1), .long (31 * h42)] s43 _
  refine UP.stp 2 (i1 := 136) (L1 := [some (.ref 0), some (.long h), none, some (.long h42), none]) (st1 := [.long (31 * h42 + (ke 1).toInt64)]) (s1 := s43) rfl ?_
  rw [fd_c, fd_n]
  exact UP.ret (r := some (.long (31 * h42 + (ke 1).toInt64))) rfl ⟨rfl, g44⟩
theorem dC_digest {b : SG} {kn kf kg ky kw ke : Int32 → Int32} {kc ka ks kk : Int32 → Int32 → Int32} {kh : Int32 → Int32 → Int64} {kt ki p0 p1 kv : Int32} (Hn : ∀ a, bl a 8 = true → VC b m_X6_count [.int a] (.int (kn a))) (Hf : ∀ a, bl a 3 = true → VC b m_X6_fault [.int a] (.int (kf a))) (Hc : ∀ a c, bl a 24 = true → bl c 2 = true → VC b m_X6_call [.int a, .int c] (.int (kc a c))) (Ha : ∀ a c, bl a 24 = true → bl c 5 = true → VC b m_X6_at [.int a, .int c] (.int (ka a c))) (Hs : ∀ a c, bl a 24 = true → bl c 2 = true → VC b m_X6_steer [.int a, .int c] (.int (ks a c))) (Hk : ∀ a c, bl a 24 = true → bl c 2 = true → VC b m_X6_stroke [.int a, .int c] (.int (kk a c))) (Hh : ∀ a c, bl a 24 = true → bl c 2 = true → VC b m_X6_chance [.int 5, .int a, .int c] (.long (kh a c))) (Ht : VC b m_X6_there [] (.int kt)) (Hg : ∀ a, bl a 2 = true → VC b m_X6_grounded [.int a] (.int (kg a))) (Hy : ∀ a, bl a 2 = true → VC b m_X6_stray [.int a] (.int (ky a))) (Hb : VC b m_X6_best [] (.int (-1))) (Hi : VC b m_X6_idle [] (.int ki)) (Hw : ∀ a, bl a 3 = true → VC b m_X6_swap [.int a] (.int (kw a))) (Hp : VC b m_X6_spare [.int (-1)] (.int p0)) (Hq : VC b m_X6_spare [.int 0] (.int p1)) (Hv : VC b m_X6_never [] (.int kv)) (He : ∀ a, bl a 2 = true → VC b m_X6_years [.int 7, .int 18, .int a] (.int (ke a))) (hz : b 10 0 = 0) (s : SG) (g : gdC b s) : UP m_X6_digest 0 [some (.ref 0), none, none, none] [] s (PoC b (fd (fd (fd (fd (fd 17 (nfL kn kf)) (mlL kc ka 24 0)) (plL ks kk kh 2)) (plL ks kk kh 10)) (whL kg ky kw ke kt ki p0 p1 kv))) := by
  unfold nfL
  refine UP.stp 6 (i1 := 6) (L1 := [some (.ref 0), some (.long 17), none, some (.int 0)]) (st1 := [.int 8, .int 0]) (s1 := s) rfl ?_
  refine UP.icF rfl (by decide) ?_
  refine UP.stp 5 (i1 := 12) (L1 := [some (.ref 0), some (.long 17), none, some (.int 0)]) (st1 := [.int 0, .ref 0, .long (31 * 17)]) (s1 := s) rfl ?_
  refine UP.call (M1 := m_X6_count) (as := [.ref 0, .int 0]) (rest := [.long (31 * 17)]) rfl rfl (Hn 0 (by decide) s g) (fun r s1 q => ?_)
  obtain ⟨rfl, g2⟩ := q
  show UP m_X6_digest 13 [some (.ref 0), some (.long 17), none, some (.int 0)] [.int (kn 0), .long (31 * 17)] s1 _
  refine UP.stp 3 (i1 := 16) (L1 := [some (.ref 0), some (.long (31 * 17 + (kn 0).toInt64)), none, some (.int 0)]) (st1 := []) (s1 := s1) rfl ?_
  rw [fd_c]
  generalize 31 * 17 + (kn 0).toInt64 = h3
  refine UP.stp 4 (i1 := 6) (L1 := [some (.ref 0), some (.long h3), none, some (.int 1)]) (st1 := [.int 8, .int 1]) (s1 := s1) rfl ?_
  refine UP.icF rfl (by decide) ?_
  refine UP.stp 5 (i1 := 12) (L1 := [some (.ref 0), some (.long h3), none, some (.int 1)]) (st1 := [.int 1, .ref 0, .long (31 * h3)]) (s1 := s1) rfl ?_
  refine UP.call (M1 := m_X6_count) (as := [.ref 0, .int 1]) (rest := [.long (31 * h3)]) rfl rfl (Hn 1 (by decide) s1 g2) (fun r s4 q => ?_)
  obtain ⟨rfl, g5⟩ := q
  show UP m_X6_digest 13 [some (.ref 0), some (.long h3), none, some (.int 1)] [.int (kn 1), .long (31 * h3)] s4 _
  refine UP.stp 3 (i1 := 16) (L1 := [some (.ref 0), some (.long (31 * h3 + (kn 1).toInt64)), none, some (.int 1)]) (st1 := []) (s1 := s4) rfl ?_
  rw [fd_c]
  generalize 31 * h3 + (kn 1).toInt64 = h6
  refine UP.stp 4 (i1 := 6) (L1 := [some (.ref 0), some (.long h6), none, some (.int 2)]) (st1 := [.int 8, .int 2]) (s1 := s4) rfl ?_
  refine UP.icF rfl (by decide) ?_
  refine UP.stp 5 (i1 := 12) (L1 := [some (.ref 0), some (.long h6), none, some (.int 2)]) (st1 := [.int 2, .ref 0, .long (31 * h6)]) (s1 := s4) rfl ?_
  refine UP.call (M1 := m_X6_count) (as := [.ref 0, .int 2]) (rest := [.long (31 * h6)]) rfl rfl (Hn 2 (by decide) s4 g5) (fun r s7 q => ?_)
  obtain ⟨rfl, g8⟩ := q
  show UP m_X6_digest 13 [some (.ref 0), some (.long h6), none, some (.int 2)] [.int (kn 2), .long (31 * h6)] s7 _
  refine UP.stp 3 (i1 := 16) (L1 := [some (.ref 0), some (.long (31 * h6 + (kn 2).toInt64)), none, some (.int 2)]) (st1 := []) (s1 := s7) rfl ?_
  rw [fd_c]
  generalize 31 * h6 + (kn 2).toInt64 = h9
  refine UP.stp 4 (i1 := 6) (L1 := [some (.ref 0), some (.long h9), none, some (.int 3)]) (st1 := [.int 8, .int 3]) (s1 := s7) rfl ?_
  refine UP.icF rfl (by decide) ?_
  refine UP.stp 5 (i1 := 12) (L1 := [some (.ref 0), some (.long h9), none, some (.int 3)]) (st1 := [.int 3, .ref 0, .long (31 * h9)]) (s1 := s7) rfl ?_
  refine UP.call (M1 := m_X6_count) (as := [.ref 0, .int 3]) (rest := [.long (31 * h9)]) rfl rfl (Hn 3 (by decide) s7 g8) (fun r s10 q => ?_)
  obtain ⟨rfl, g11⟩ := q
  show UP m_X6_digest 13 [some (.ref 0), some (.long h9), none, some (.int 3)] [.int (kn 3), .long (31 * h9)] s10 _
  refine UP.stp 3 (i1 := 16) (L1 := [some (.ref 0), some (.long (31 * h9 + (kn 3).toInt64)), none, some (.int 3)]) (st1 := []) (s1 := s10) rfl ?_
  rw [fd_c]
  generalize 31 * h9 + (kn 3).toInt64 = h12
  refine UP.stp 4 (i1 := 6) (L1 := [some (.ref 0), some (.long h12), none, some (.int 4)]) (st1 := [.int 8, .int 4]) (s1 := s10) rfl ?_
  refine UP.icF rfl (by decide) ?_
  refine UP.stp 5 (i1 := 12) (L1 := [some (.ref 0), some (.long h12), none, some (.int 4)]) (st1 := [.int 4, .ref 0, .long (31 * h12)]) (s1 := s10) rfl ?_
  refine UP.call (M1 := m_X6_count) (as := [.ref 0, .int 4]) (rest := [.long (31 * h12)]) rfl rfl (Hn 4 (by decide) s10 g11) (fun r s13 q => ?_)
  obtain ⟨rfl, g14⟩ := q
  show UP m_X6_digest 13 [some (.ref 0), some (.long h12), none, some (.int 4)] [.int (kn 4), .long (31 * h12)] s13 _
  refine UP.stp 3 (i1 := 16) (L1 := [some (.ref 0), some (.long (31 * h12 + (kn 4).toInt64)), none, some (.int 4)]) (st1 := []) (s1 := s13) rfl ?_
  rw [fd_c]
  generalize 31 * h12 + (kn 4).toInt64 = h15
  refine UP.stp 4 (i1 := 6) (L1 := [some (.ref 0), some (.long h15), none, some (.int 5)]) (st1 := [.int 8, .int 5]) (s1 := s13) rfl ?_
  refine UP.icF rfl (by decide) ?_
  refine UP.stp 5 (i1 := 12) (L1 := [some (.ref 0), some (.long h15), none, some (.int 5)]) (st1 := [.int 5, .ref 0, .long (31 * h15)]) (s1 := s13) rfl ?_
  refine UP.call (M1 := m_X6_count) (as := [.ref 0, .int 5]) (rest := [.long (31 * h15)]) rfl rfl (Hn 5 (by decide) s13 g14) (fun r s16 q => ?_)
  obtain ⟨rfl, g17⟩ := q
  show UP m_X6_digest 13 [some (.ref 0), some (.long h15), none, some (.int 5)] [.int (kn 5), .long (31 * h15)] s16 _
  refine UP.stp 3 (i1 := 16) (L1 := [some (.ref 0), some (.long (31 * h15 + (kn 5).toInt64)), none, some (.int 5)]) (st1 := []) (s1 := s16) rfl ?_
  rw [fd_c]
  generalize 31 * h15 + (kn 5).toInt64 = h18
  refine UP.stp 4 (i1 := 6) (L1 := [some (.ref 0), some (.long h18), none, some (.int 6)]) (st1 := [.int 8, .int 6]) (s1 := s16) rfl ?_
  refine UP.icF rfl (by decide) ?_
  refine UP.stp 5 (i1 := 12) (L1 := [some (.ref 0), some (.long h18), none, some (.int 6)]) (st1 := [.int 6, .ref 0, .long (31 * h18)]) (s1 := s16) rfl ?_
  refine UP.call (M1 := m_X6_count) (as := [.ref 0, .int 6]) (rest := [.long (31 * h18)]) rfl rfl (Hn 6 (by decide) s16 g17) (fun r s19 q => ?_)
  obtain ⟨rfl, g20⟩ := q
  show UP m_X6_digest 13 [some (.ref 0), some (.long h18), none, some (.int 6)] [.int (kn 6), .long (31 * h18)] s19 _
  refine UP.stp 3 (i1 := 16) (L1 := [some (.ref 0), some (.long (31 * h18 + (kn 6).toInt64)), none, some (.int 6)]) (st1 := []) (s1 := s19) rfl ?_
  rw [fd_c]
  generalize 31 * h18 + (kn 6).toInt64 = h21
  refine UP.stp 4 (i1 := 6) (L1 := [some (.ref 0), some (.long h21), none, some (.int 7)]) (st1 := [.int 8, .int 7]) (s1 := s19) rfl ?_
  refine UP.icF rfl (by decide) ?_
  refine UP.stp 5 (i1 := 12) (L1 := [some (.ref 0), some (.long h21), none, some (.int 7)]) (st1 := [.int 7, .ref 0, .long (31 * h21)]) (s1 := s19) rfl ?_
  refine UP.call (M1 := m_X6_count) (as := [.ref 0, .int 7]) (rest := [.long (31 * h21)]) rfl rfl (Hn 7 (by decide) s19 g20) (fun r s22 q => ?_)
  obtain ⟨rfl, g23⟩ := q
  show UP m_X6_digest 13 [some (.ref 0), some (.long h21), none, some (.int 7)] [.int (kn 7), .long (31 * h21)] s22 _
  refine UP.stp 3 (i1 := 16) (L1 := [some (.ref 0), some (.long (31 * h21 + (kn 7).toInt64)), none, some (.int 7)]) (st1 := []) (s1 := s22) rfl ?_
  rw [fd_c]
  generalize 31 * h21 + (kn 7).toInt64 = h24
  refine UP.stp 4 (i1 := 6) (L1 := [some (.ref 0), some (.long h24), none, some (.int 8)]) (st1 := [.int 8, .int 8]) (s1 := s22) rfl ?_
  refine UP.icT rfl (by decide) ?_
  refine UP.stp 4 (i1 := 22) (L1 := [some (.ref 0), some (.long h24), none, some (.int 0)]) (st1 := [.int 3, .int 0]) (s1 := s22) rfl ?_
  refine UP.icF rfl (by decide) ?_
  refine UP.stp 5 (i1 := 28) (L1 := [some (.ref 0), some (.long h24), none, some (.int 0)]) (st1 := [.int 0, .ref 0, .long (31 * h24)]) (s1 := s22) rfl ?_
  refine UP.call (M1 := m_X6_fault) (as := [.ref 0, .int 0]) (rest := [.long (31 * h24)]) rfl rfl (Hf 0 (by decide) s22 g23) (fun r s25 q => ?_)
  obtain ⟨rfl, g26⟩ := q
  show UP m_X6_digest 29 [some (.ref 0), some (.long h24), none, some (.int 0)] [.int (kf 0), .long (31 * h24)] s25 _
  refine UP.stp 3 (i1 := 32) (L1 := [some (.ref 0), some (.long (31 * h24 + (kf 0).toInt64)), none, some (.int 0)]) (st1 := []) (s1 := s25) rfl ?_
  rw [fd_c]
  generalize 31 * h24 + (kf 0).toInt64 = h27
  refine UP.stp 4 (i1 := 22) (L1 := [some (.ref 0), some (.long h27), none, some (.int 1)]) (st1 := [.int 3, .int 1]) (s1 := s25) rfl ?_
  refine UP.icF rfl (by decide) ?_
  refine UP.stp 5 (i1 := 28) (L1 := [some (.ref 0), some (.long h27), none, some (.int 1)]) (st1 := [.int 1, .ref 0, .long (31 * h27)]) (s1 := s25) rfl ?_
  refine UP.call (M1 := m_X6_fault) (as := [.ref 0, .int 1]) (rest := [.long (31 * h27)]) rfl rfl (Hf 1 (by decide) s25 g26) (fun r s28 q => ?_)
  obtain ⟨rfl, g29⟩ := q
  show UP m_X6_digest 29 [some (.ref 0), some (.long h27), none, some (.int 1)] [.int (kf 1), .long (31 * h27)] s28 _
  refine UP.stp 3 (i1 := 32) (L1 := [some (.ref 0), some (.long (31 * h27 + (kf 1).toInt64)), none, some (.int 1)]) (st1 := []) (s1 := s28) rfl ?_
  rw [fd_c]
  generalize 31 * h27 + (kf 1).toInt64 = h30
  refine UP.stp 4 (i1 := 22) (L1 := [some (.ref 0), some (.long h30), none, some (.int 2)]) (st1 := [.int 3, .int 2]) (s1 := s28) rfl ?_
  refine UP.icF rfl (by decide) ?_
  refine UP.stp 5 (i1 := 28) (L1 := [some (.ref 0), some (.long h30), none, some (.int 2)]) (st1 := [.int 2, .ref 0, .long (31 * h30)]) (s1 := s28) rfl ?_
  refine UP.call (M1 := m_X6_fault) (as := [.ref 0, .int 2]) (rest := [.long (31 * h30)]) rfl rfl (Hf 2 (by decide) s28 g29) (fun r s31 q => ?_)
  obtain ⟨rfl, g32⟩ := q
  show UP m_X6_digest 29 [some (.ref 0), some (.long h30), none, some (.int 2)] [.int (kf 2), .long (31 * h30)] s31 _
  refine UP.stp 3 (i1 := 32) (L1 := [some (.ref 0), some (.long (31 * h30 + (kf 2).toInt64)), none, some (.int 2)]) (st1 := []) (s1 := s31) rfl ?_
  rw [fd_c, fd_n]
  generalize 31 * h30 + (kf 2).toInt64 = h33
  refine UP.stp 4 (i1 := 22) (L1 := [some (.ref 0), some (.long h33), none, some (.int 3)]) (st1 := [.int 3, .int 3]) (s1 := s31) rfl ?_
  refine UP.icT rfl (by decide) ?_
  refine UP.stp 2 (i1 := 36) (L1 := [some (.ref 0), some (.long h33), none, some (.int 3)]) (st1 := [.long h33, .ref 0]) (s1 := s31) rfl ?_
  refine UP.call (M1 := m_X6_addMinutes) (as := [.ref 0, .long h33]) (rest := []) rfl rfl (dC_minutes Hc Ha h33 s31 g32) (fun r s34 q => ?_)
  obtain ⟨rfl, g35⟩ := q
  show UP m_X6_digest 37 [some (.ref 0), some (.long h33), none, some (.int 3)] [.long (fd h33 (mlL kc ka 24 0))] s34 _
  refine UP.stp 1 (i1 := 38) (L1 := [some (.ref 0), some (.long (fd h33 (mlL kc ka 24 0))), none, some (.int 3)]) (st1 := []) (s1 := s34) rfl ?_
  generalize fd h33 (mlL kc ka 24 0) = h36
  refine UP.stp 6 (i1 := 44) (L1 := [some (.ref 0), some (.long h36), none, some (.int 0)]) (st1 := [.int (s34 10 0), .int 0]) (s1 := s34) rfl ?_
  refine UP.icT rfl (by rw [(g35.2.1 10 0 rfl).trans hz]; decide) ?_
  refine UP.stp 3 (i1 := 55) (L1 := [some (.ref 0), some (.long h36), none, some (.int 0)]) (st1 := [.int 2, .long h36, .ref 0]) (s1 := s34) rfl ?_
  refine UP.call (M1 := m_X6_addPlans) (as := [.ref 0, .long h36, .int 2]) (rest := []) rfl rfl (dC_plan2 Hs Hk Hh h36 s34 g35) (fun r s37 q => ?_)
  obtain ⟨rfl, g38⟩ := q
  show UP m_X6_digest 56 [some (.ref 0), some (.long h36), none, some (.int 0)] [.long (fd h36 (plL ks kk kh 2))] s37 _
  refine UP.stp 1 (i1 := 57) (L1 := [some (.ref 0), some (.long (fd h36 (plL ks kk kh 2))), none, some (.int 0)]) (st1 := []) (s1 := s37) rfl ?_
  generalize fd h36 (plL ks kk kh 2) = h39
  refine UP.stp 3 (i1 := 60) (L1 := [some (.ref 0), some (.long h39), none, some (.int 0)]) (st1 := [.int 10, .long h39, .ref 0]) (s1 := s37) rfl ?_
  refine UP.call (M1 := m_X6_addPlans) (as := [.ref 0, .long h39, .int 10]) (rest := []) rfl rfl (dC_plan10 Hs Hk Hh h39 s37 g38) (fun r s40 q => ?_)
  obtain ⟨rfl, g41⟩ := q
  show UP m_X6_digest 61 [some (.ref 0), some (.long h39), none, some (.int 0)] [.long (fd h39 (plL ks kk kh 10))] s40 _
  refine UP.stp 1 (i1 := 62) (L1 := [some (.ref 0), some (.long (fd h39 (plL ks kk kh 10))), none, some (.int 0)]) (st1 := []) (s1 := s40) rfl ?_
  generalize fd h39 (plL ks kk kh 10) = h42
  refine UP.stp 2 (i1 := 64) (L1 := [some (.ref 0), some (.long h42), none, some (.int 0)]) (st1 := [.long h42, .ref 0]) (s1 := s40) rfl ?_
  refine UP.call (M1 := m_X6_addWhole) (as := [.ref 0, .long h42]) (rest := []) rfl rfl (dC_whole Ht Hg Hy Hb Hi Hw Hp Hq Hv He h42 s40 g41) (fun r s43 q => ?_)
  obtain ⟨rfl, g44⟩ := q
  show UP m_X6_digest 65 [some (.ref 0), some (.long h42), none, some (.int 0)] [.long (fd h42 (whL kg ky kw ke kt ki p0 p1 kv))] s43 _
  exact UP.ret (r := some (.long (fd h42 (whL kg ky kw ke kt ki p0 p1 kv)))) rfl ⟨rfl, g44⟩
