/-! THE SECOND INVARIANT: J1, and the stream and the home are the same on both sides -/
theorem PairOK.fr {J : MH → Prop} {T : Option Value → Option Value → Prop} {y1 y2 : Nat} {as : List Value} {h : MH} {ms : List Nat} {bad : List (Nat × Nat)} {bb : Bool} (p : PairOK J T y1 y2 as h) (hn : noPut ms bad bb = true) (m1 : y1 ∈ ms) (m2 : y2 ∈ ms) : PairOK (fun h2 => J h2 ∧ FR bad bb h h2) T y1 y2 as h := by
  obtain ⟨M1, M2, r, h1, r2, h2, a, b, c, d, e, f, ⟨n1, g⟩, ⟨n2, k⟩, t, q⟩ := p
  exact ⟨M1, M2, r, h1, r2, h2, a, b, c, d, e, f, ⟨n1, g⟩, ⟨n2, k⟩, t, q, (mrun_fr hn [] n1 y1 _ _ _ _ _ _ _ _ m1 a g).tr (mrun_fr hn [] n2 y2 _ _ _ _ _ _ _ _ m2 b k)⟩
def bad8 : List (Nat × Nat) := [(0, 5), (0, 6), (7, 9), (7, 10)]
def K8 (h : MH) : Prop := fI h 10 5 = fI h 123 9 ∧ fI h 10 6 = fI h 123 10
def J8 (h : MH) : Prop := J1 h ∧ K8 h
theorem J8.c (h : MH) (j : J8 h) : gH HCs h := j.1.1
theorem J8.m (h : MH) (j : J8 h) : gH HMs h := j.1.2.1
theorem K8.fr {h h1 : MH} {bb : Bool} (j : J1 h) (k : K8 h) (f : FR bad8 bb h h1) : K8 h1 := by
  have e1 := FR_fI f j.1 (show a_fd HCs 0 5 10 = some (.inr (-2147483648, 2147483647, false)) from rfl) (by decide)
  have e2 := FR_fI f j.1 (show a_fd HCs 0 6 10 = some (.inr (-2147483648, 2147483647, false)) from rfl) (by decide)
  have e3 := FR_fI f j.2.1 (show a_fd HMs 7 9 123 = some (.inr (-2147483648, 2147483647, false)) from rfl) (by decide)
  have e4 := FR_fI f j.2.1 (show a_fd HMs 7 10 123 = some (.inr (-2147483648, 2147483647, false)) from rfl) (by decide)
  exact ⟨e1.trans (k.1.trans e3.symm), e2.trans (k.2.trans e4.symm)⟩
theorem J8.of {T : Option Value → Option Value → Prop} {y1 y2 : Nat} {as : List Value} {h : MH} {ms : List Nat} (hJ : J8 h) (p : PairOK J1 T y1 y2 as h) (hn : noPut ms bad8 false = true) (m1 : y1 ∈ ms) (m2 : y2 ∈ ms) : PairOK J8 T y1 y2 as h := (p.fr hn m1 m2).mono (fun _ _ t => t) (fun _ q => ⟨q.1, K8.fr hJ.1 hJ.2 q.2⟩)
theorem J8_C : Jst J8 HC := by
  intro h h1 j g1 f
  have g := gH.eq eq_HCr j.1.1
  have s := from_of HC_len any_C f g g1
  refine ⟨J1_C h h1 j.1 g1 f, ?_, ?_⟩
  · rw [fI_fz f g g1 (show a_fd HC 0 5 10 = some (.inr (-2147483648, 2147483647, true)) from rfl), fI_cong (s 123 (by omega))]
    exact j.2.1
  · rw [fI_fz f g g1 (show a_fd HC 0 6 10 = some (.inr (-2147483648, 2147483647, true)) from rfl), fI_cong (s 123 (by omega))]
    exact j.2.2
theorem J8_M : Jst J8 HM := by
  intro h h1 j g1 f
  have g := gH.eq eq_HMr j.1.2.1
  have s := to_of any_M f g g1
  refine ⟨J1_M h h1 j.1 g1 f, ?_, ?_⟩
  · rw [fI_fz f g g1 (show a_fd HM 7 9 123 = some (.inr (-2147483648, 2147483647, true)) from rfl), fI_cong (s 10 (by omega))]
    exact j.2.1
  · rw [fI_fz f g g1 (show a_fd HM 7 10 123 = some (.inr (-2147483648, 2147483647, true)) from rfl), fI_cong (s 10 (by omega))]
    exact j.2.2
theorem J8_0 : J8 h0 := ⟨J1_0, by decide +kernel, by decide +kernel⟩
theorem pair_river {h : MH} (what v : Int32) (hJ : J8 h) : PairOK J8 TE 37 118 [.int what, .int v] h := by
  refine pair_rp hJ.1.1 (M1 := m_X6_river) (M2 := m_X7_river) rfl rfl rfl rfl (x_river what v h hJ.1.1) (fun r h1 q => (J1_Cs h h1 hJ.1 q.1 q.2.1).2.1) (fun r h1 q => ?_)
  obtain ⟨g1, f1, rfl, q1, q2⟩ := q
  have j1 := J1_Cs h h1 hJ.1 g1 f1
  have s1 := from_of HCs_len any_Cs f1 hJ.1.1 g1
  refine (y_river what v h1 j1.2.1).mono (fun r2 h2 w => ?_)
  obtain ⟨g2, f2, rfl, w1, w2⟩ := w
  have s2 := to_of any_Ms f2 j1.2.1 g2
  have e9 : fI h1 123 9 = fI h 10 5 := (fI_cong (s1 123 (by omega))).trans hJ.2.1.symm
  have e10 : fI h1 123 10 = fI h 10 6 := (fI_cong (s1 123 (by omega))).trans hJ.2.2.symm
  rw [e9, e10] at w1 w2
  refine ⟨⟨_, rfl, by rw [e9, e10]⟩, J1_Ms h1 h2 j1 g2 f2, ?_, ?_⟩
  · rw [fI_cong (s2 10 (by omega)), q1, w1]
  · rw [fI_cong (s2 10 (by omega)), q2, w2]
