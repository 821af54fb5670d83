/-! seen and forget: how many sightings there are is the same on both sides -/
def snX (h : MH) (p1 p2 : Int32) : MH := setF (setA (setA h 7 (fI h 6 2).toNatClampNeg p1) 8 (fI h 6 2).toNatClampNeg p2) 6 2 (fI h 6 2 + 1)
def snY (h : MH) (p1 p2 : Int32) : MH := setF (setA (setA h 145 (fI h 123 37).toNatClampNeg p1) 146 (fI h 123 37).toNatClampNeg p2) 123 37 (fI h 123 37 + 1)
def snO (p1 p2 : Int32) : Prop := (0 ≤ p1.toInt ∧ p1.toInt ≤ 23) ∧ (0 ≤ p2.toInt ∧ p2.toInt ≤ 20)
def SnX (p1 p2 : Int32) (h : MH) (r : Option Value) (h1 : MH) : Prop := gH HCs h1 ∧ fH HCs h h1 ∧ ((¬ snO p1 p2 ∧ r = some (.int (-2)) ∧ h1 = h) ∨ (snO p1 p2 ∧ fI h 6 2 = 8 ∧ r = some (.int (-4)) ∧ h1 = h) ∨ (snO p1 p2 ∧ ¬ fI h 6 2 = 8 ∧ r = some (.int (fI h 6 2 + 1)) ∧ h1 = snX h p1 p2))
def SnY (p1 p2 : Int32) (h : MH) (r : Option Value) (h1 : MH) : Prop := gH HMs h1 ∧ fH HMs h h1 ∧ ((¬ snO p1 p2 ∧ r = some (.int (-2)) ∧ h1 = h) ∨ (snO p1 p2 ∧ fI h 123 37 = 8 ∧ r = some (.int (-4)) ∧ h1 = h) ∨ (snO p1 p2 ∧ ¬ fI h 123 37 = 8 ∧ r = some (.int (fI h 123 37 + 1)) ∧ h1 = snY h p1 p2))
theorem fI_ob {h : MH} {a k ci : Nat} {vs : List Value} {x : Int32} (hx : h[a]? = some (.inr (ci, vs))) (hk : k < vs.length) : fI (setF h a k x) a k = x := by
  have hl : a < h.length := (List.getElem?_eq_some_iff.mp hx).1
  unfold setF
  rw [hx]
  dsimp only
  unfold fI
  rw [List.getElem?_set_self hl]
  dsimp only
  rw [List.getElem?_set_self hk]
theorem snX_n {h : MH} {p1 p2 : Int32} (g : gH HCs h) : fI (snX h p1 p2) 6 2 = fI h 6 2 + 1 := by
  have hf : a_fd HCs 2 2 6 = some (.inr (0, 8, false)) := rfl
  obtain ⟨vs, hx, hv, -, -⟩ := fI_sp g hf
  have e : (setA (setA h 7 (fI h 6 2).toNatClampNeg p1) 8 (fI h 6 2).toNatClampNeg p2)[6]? = some (.inr (2, vs)) := by rw [setA_ne (by decide), setA_ne (by decide), hx]
  have hk : 2 < vs.length := (List.getElem?_eq_some_iff.mp hv).1
  exact fI_ob e hk
theorem snY_n {h : MH} {p1 p2 : Int32} (g : gH HMs h) : fI (snY h p1 p2) 123 37 = fI h 123 37 + 1 := by
  have hf : a_fd HMs 7 37 123 = some (.inr (0, 8, false)) := rfl
  obtain ⟨vs, hx, hv, -, -⟩ := fI_sp g hf
  have e : (setA (setA h 145 (fI h 123 37).toNatClampNeg p1) 146 (fI h 123 37).toNatClampNeg p2)[123]? = some (.inr (7, vs)) := by rw [setA_ne (by decide), setA_ne (by decide), hx]
  have hk : 37 < vs.length := (List.getElem?_eq_some_iff.mp hv).1
  exact fI_ob e hk
theorem x_appSE (p1 : Int32) (p2 : Int32) (h : MH) (gh : gH HCs h) (hs : (fI h 6 2).toInt < 8) (m1 : 0 ≤ p1.toInt) (n1 : p1.toInt ≤ 23) : RP m_X2_append 0 (m_ent 3 [.ref 6, .int p1, .int p2]) [] h (fun r h1 => r = none ∧ gH HCs h1 ∧ fH HCs h h1 ∧ h1 = snX h p1 p2) := by
  have hf : a_fd HCs 2 2 6 = some (.inr (0, 8, false)) := rfl
  obtain ⟨-, -, -, f1, f2⟩ := fI_sp gh hf
  refine RP.step rfl ?_
  refine RP.getR rfl gh rfl ?_
  refine RP.step rfl ?_
  refine RP.getI rfl gh rfl (fun _ _ => ?_)
  refine RP.step rfl ?_
  refine RP.ast (j := fI h 6 2) (x := p1) rfl gh rfl f1 (by show _ < ((8 : Nat) : Int); omega) ?_
  obtain ⟨g0, t0⟩ := setA_s (j := (fI h 6 2).toNatClampNeg) (x := p1) gh (show HCs[7]? = some (.inl (0, 8, 0, 23, false)) from rfl) m1 n1
  have w0 : fI (setA (h) 7 (fI h 6 2).toNatClampNeg p1) 6 2 = fI h 6 2 := (fI_cong (setA_ne (by decide)))
  refine RP.step rfl ?_
  refine RP.getR rfl g0 rfl ?_
  refine RP.step rfl ?_
  refine RP.getI rfl g0 rfl (fun _ _ => ?_)
  show RP m_X2_append _ _ (Value.int (fI (setA (h) 7 (fI h 6 2).toNatClampNeg p1) 6 2) :: _) _ _
  rw [w0]
  refine RP.step rfl ?_
  refine RP.ast (j := fI h 6 2) (x := p2) rfl g0 rfl f1 (by show _ < ((8 : Nat) : Int); omega) ?_
  obtain ⟨g1, t1⟩ := setA_s (j := (fI h 6 2).toNatClampNeg) (x := p2) g0 (show HCs[8]? = some (.inl (0, 8, -2147483648, 2147483647, false)) from rfl) (i32_ge _) (i32_le _)
  have w1 : fI (setA (setA (h) 7 (fI h 6 2).toNatClampNeg p1) 8 (fI h 6 2).toNatClampNeg p2) 6 2 = fI h 6 2 := (fI_cong (setA_ne (by decide))).trans w0
  have s1 : (1 : Int32).toInt = 1 := by decide
  have ls : (fI h 6 2 + 1).toInt = (fI h 6 2).toInt + 1 := (i32_add (by omega) (by omega)).trans (by omega)
  refine RP.step rfl ?_
  refine RP.step rfl ?_
  refine RP.getI rfl g1 rfl (fun _ _ => ?_)
  show RP m_X2_append _ _ (Value.int (fI (setA (setA (h) 7 (fI h 6 2).toNatClampNeg p1) 8 (fI h 6 2).toNatClampNeg p2) 6 2) :: _) _ _
  rw [w1]
  refine RP.step rfl ?_
  refine RP.step rfl ?_
  refine RP.putI (x := fI h 6 2 + 1) rfl g1 hf rfl ?_
  obtain ⟨g9, t9⟩ := setF_s (x := fI h 6 2 + 1) g1 hf (by omega) (by omega)
  exact RP.ret rfl ⟨rfl, g9, fH.tr g1 (fH.tr g0 t0 t1) t9, rfl⟩

theorem x_seenE (p1 p2 : Int32) (h : MH) (gh : gH HCs h) : RP m_X6_seen 0 (m_ent 3 [.ref 0, .int p1, .int p2]) [] h (SnX p1 p2 h) := by
  have z24 : (24 : Int32).toInt = 24 := by decide
  have z21 : (21 : Int32).toInt = 21 := by decide
  obtain ⟨-, -, -, k1, k2⟩ := fI_sp gh (show a_fd HCs 2 2 6 = some (.inr (0, 8, false)) from rfl)
  have bad : ¬ snO p1 p2 → RP m_X6_seen 8 (m_ent 3 [.ref 0, .int p1, .int p2]) [] h (SnX p1 p2 h) := by
    intro q
    refine RP.step rfl ?_
    exact RP.ret rfl ⟨gh, fH.rf _ _, Or.inl ⟨q, rfl, rfl⟩⟩
  refine RP.step rfl ?_
  refine RP.step rfl ?_
  refine c_isBelow (v := p1) (n := 24) rfl (fun b1 b2 => ?_) (fun q => RP.step rfl (bad (fun w => q ⟨by have := w.1; have := w.2; omega, by have := w.1; have := w.2; omega⟩)))
  refine RP.step rfl ?_
  refine RP.step rfl ?_
  refine RP.step rfl ?_
  refine c_isBelow (v := p2) (n := 21) rfl (fun c1 c2 => ?_) (fun q => RP.step rfl (bad (fun w => q ⟨by have := w.1; have := w.2; omega, by have := w.1; have := w.2; omega⟩)))
  have hO : snO p1 p2 := ⟨⟨b1, by omega⟩, c1, by omega⟩
  have z8 : (8 : Int32).toInt = 8 := by decide
  refine RP.step rfl ?_
  refine RP.step rfl ?_
  refine RP.getR rfl gh rfl ?_
  refine RP.getI rfl gh rfl (fun _ _ => ?_)
  refine RP.step rfl ?_
  refine RP.icmp (x := fI h 6 2) (y := 8) rfl (fun d1 => ?_) (fun d1 => ?_)
  · have hs := m_lt_iff.mp d1
    rw [z8] at hs
    refine RP.step rfl ?_
    refine RP.getR rfl gh rfl ?_
    refine RP.step rfl ?_
    refine RP.step rfl ?_
    obtain ⟨vs, hx⟩ := ob_sp (a := 6) (ci := 2) gh rfl
    refine RP.call (M1 := m_X2_append) (cv_step rfl rfl hx rfl rfl) rfl rfl (x_appSE p1 p2 h gh hs b1 (by omega)) (fun r h1 q => ?_)
    obtain ⟨rfl, g1, t1, rfl⟩ := q
    refine RP.step rfl ?_
    refine RP.getR rfl g1 rfl ?_
    refine RP.getI rfl g1 rfl (fun e1 e2 => ?_)
    refine RP.ret rfl ⟨g1, t1, Or.inr (Or.inr ⟨hO, fun e => ?_, ?_, rfl⟩)⟩
    · rw [e, z8] at hs
      omega
    · show some (Value.int (fI (snX h p1 p2) 6 2)) = _
      rw [snX_n gh]
  · have hs := m_ff m_lt_iff d1
    refine RP.step rfl ?_
    exact RP.ret rfl ⟨gh, fH.rf _ _, Or.inr (Or.inl ⟨hO, Int32.toInt_inj.mp (by omega), rfl, rfl⟩)⟩
theorem y_seenE (p1 p2 : Int32) (h : MH) (gh : gH HMs h) : RP m_X7_seen 0 (m_ent 3 [.ref 123, .int p1, .int p2]) [] h (SnY p1 p2 h) := by
  have z0 : (0 : Int32).toInt = 0 := by decide
  have z20 : (20 : Int32).toInt = 20 := by decide
  have bad : ¬ snO p1 p2 → RP m_X7_seen 8 (m_ent 3 [.ref 123, .int p1, .int p2]) [] h (SnY p1 p2 h) := by
    intro q
    refine RP.step rfl ?_
    exact RP.ret rfl ⟨gh, fH.rf _ _, Or.inl ⟨q, rfl, rfl⟩⟩
  have hf : a_fd HMs 7 37 123 = some (.inr (0, 8, false)) := rfl
  obtain ⟨-, -, -, f1, f2⟩ := fI_sp gh hf
  have z8 : (8 : Int32).toInt = 8 := by decide
  have s1 : (1 : Int32).toInt = 1 := by decide
  refine RP.step rfl ?_
  refine c_isMinute (v := p1) rfl (fun a1 a2 => ?_) (fun q => RP.step rfl (bad (fun w => q ⟨by have := w.1; have := w.2; omega, by have := w.1; have := w.2; omega⟩)))
  refine RP.step rfl ?_
  refine RP.step rfl ?_
  refine RP.step rfl ?_
  refine RP.step rfl ?_
  refine c_in (v := p2) (a := 0) (b := 20) rfl (fun b1 b2 => ?_) (fun q => RP.step rfl (bad (fun w => q ⟨by have := w.1; have := w.2; omega, by have := w.1; have := w.2; omega⟩)))
  have hO : snO p1 p2 := ⟨⟨a1, a2⟩, by omega, by omega⟩
  refine RP.step rfl ?_
  refine RP.step rfl ?_
  refine RP.getI rfl gh rfl (fun _ _ => ?_)
  refine RP.step rfl ?_
  refine RP.icmp (x := fI h 123 37) (y := 8) rfl (fun d1 => ?_) (fun d1 => RP.step rfl (RP.ret rfl ⟨gh, fH.rf _ _, Or.inr (Or.inl ⟨hO, Decidable.of_not_not (m_ff m_ne_iff d1), rfl, rfl⟩)⟩))
  have hn := m_ne_iff.mp d1
  obtain ⟨s, hs⟩ : ∃ s, fI h 123 37 = s := ⟨_, rfl⟩
  rw [hs] at f1 f2 hn
  have l8 : ¬ s.toInt = 8 := fun q => hn (Int32.toInt_inj.mp (q.trans z8.symm))
  have ls : (s + 1).toInt = s.toInt + 1 := (i32_add (by omega) (by omega)).trans (by omega)
  refine RP.step rfl ?_
  refine RP.getR rfl gh rfl ?_
  refine RP.step rfl ?_
  refine RP.getI rfl gh rfl (fun _ _ => ?_)
  show RP m_X7_seen _ _ (Value.int (fI (h) 123 37) :: _) _ _
  rw [hs]
  refine RP.step rfl ?_
  refine RP.ast (j := s) (x := p1) rfl gh rfl f1 (by show _ < ((8 : Nat) : Int); omega) ?_
  obtain ⟨g0, t0⟩ := setA_s (j := s.toNatClampNeg) (x := p1) gh (show HMs[145]? = some (.inl (0, 8, 0, 23, false)) from rfl) (by omega) (by omega)
  have w0 : fI (setA (h) 145 s.toNatClampNeg p1) 123 37 = s := (fI_cong (setA_ne (by decide))).trans hs
  refine RP.step rfl ?_
  refine RP.getR rfl g0 rfl ?_
  refine RP.step rfl ?_
  refine RP.getI rfl g0 rfl (fun _ _ => ?_)
  show RP m_X7_seen _ _ (Value.int (fI (setA (h) 145 s.toNatClampNeg p1) 123 37) :: _) _ _
  rw [w0]
  refine RP.step rfl ?_
  refine RP.ast (j := s) (x := p2) rfl g0 rfl f1 (by show _ < ((8 : Nat) : Int); omega) ?_
  obtain ⟨g1, t1⟩ := setA_s (j := s.toNatClampNeg) (x := p2) g0 (show HMs[146]? = some (.inl (0, 8, -2147483648, 2147483647, false)) from rfl) (i32_ge _) (i32_le _)
  have w1 : fI (setA (setA (h) 145 s.toNatClampNeg p1) 146 s.toNatClampNeg p2) 123 37 = s := (fI_cong (setA_ne (by decide))).trans w0
  refine RP.step rfl ?_
  refine RP.step rfl ?_
  refine RP.getI rfl g1 rfl (fun _ _ => ?_)
  show RP m_X7_seen _ _ (Value.int (fI (setA (setA (h) 145 s.toNatClampNeg p1) 146 s.toNatClampNeg p2) 123 37) :: _) _ _
  rw [w1]
  refine RP.step rfl ?_
  refine RP.step rfl ?_
  refine RP.putI (x := s + 1) rfl g1 hf rfl ?_
  obtain ⟨g9, t9⟩ := setF_s (x := s + 1) g1 hf (by omega) (by omega)
  refine RP.step rfl ?_
  refine RP.getI rfl g9 rfl (fun e1 e2 => ?_)
  subst hs
  refine RP.ret rfl ⟨g9, fH.tr g1 (fH.tr g0 t0 t1) t9, Or.inr (Or.inr ⟨hO, hn, ?_, rfl⟩)⟩
  show some (Value.int (fI (snY h p1 p2) 123 37)) = _
  rw [snY_n gh]
theorem x_forgetE (h : MH) (gh : gH HCs h) : RP m_X6_forget 0 (m_ent 2 [.ref 0]) [] h (fun r h1 => gH HCs h1 ∧ fH HCs h h1 ∧ r = some (.int (fI h 6 2)) ∧ h1 = setF h 6 2 0) := by
  have hf : a_fd HCs 2 2 6 = some (.inr (0, 8, false)) := rfl
  obtain ⟨g1, f1⟩ := setF_s (x := 0) gh hf (by decide) (by decide)
  refine RP.step rfl ?_
  refine RP.getR rfl gh rfl ?_
  refine RP.getI rfl gh hf (fun _ _ => ?_)
  refine RP.step (L1 := [some (.ref 0), some (.int (fI h 6 2))]) rfl ?_
  refine RP.step rfl ?_
  refine RP.getR rfl gh rfl ?_
  refine RP.step rfl ?_
  refine RP.putI (x := 0) rfl gh hf rfl ?_
  refine RP.step rfl ?_
  exact RP.ret rfl ⟨g1, f1, rfl, rfl⟩
theorem y_forgetE (h : MH) (gh : gH HMs h) : RP m_X7_forget 0 (m_ent 2 [.ref 123]) [] h (fun r h1 => gH HMs h1 ∧ fH HMs h h1 ∧ r = some (.int (fI h 123 37)) ∧ h1 = setF h 123 37 0) := by
  have hf : a_fd HMs 7 37 123 = some (.inr (0, 8, false)) := rfl
  obtain ⟨g1, f1⟩ := setF_s (x := 0) gh hf (by decide) (by decide)
  refine RP.step rfl ?_
  refine RP.getI rfl gh hf (fun _ _ => ?_)
  refine RP.step (L1 := [some (.ref 123), some (.int (fI h 123 37))]) rfl ?_
  refine RP.step rfl ?_
  refine RP.step rfl ?_
  refine RP.putI (x := 0) rfl gh hf rfl ?_
  refine RP.step rfl ?_
  exact RP.ret rfl ⟨g1, f1, rfl, rfl⟩
/-- THE THIRD INVARIANT: J1, and as many sightings on both sides -/
def bad24 : List (Nat × Nat) := [(2, 2), (7, 37)]
def K24 (h : MH) : Prop := fI h 6 2 = fI h 123 37
def J24 (h : MH) : Prop := J1 h ∧ K24 h
theorem J24.c (h : MH) (j : J24 h) : gH HCs h := j.1.1
theorem J24.m (h : MH) (j : J24 h) : gH HMs h := j.1.2.1
theorem K24.fr {h h1 : MH} {bb : Bool} (j : J1 h) (k : K24 h) (f : FR bad24 bb h h1) : K24 h1 := by
  have e1 := FR_fI f j.1 (show a_fd HCs 2 2 6 = some (.inr (0, 8, false)) from rfl) (by decide)
  have e3 := FR_fI f j.2.1 (show a_fd HMs 7 37 123 = some (.inr (0, 8, false)) from rfl) (by decide)
  exact e1.trans (k.trans e3.symm)
theorem J24.of {T : Option Value → Option Value → Prop} {y1 y2 : Nat} {as : List Value} {h : MH} {ms : List Nat} (hJ : J24 h) (p : PairOK J1 T y1 y2 as h) (hn : noPut ms bad24 false = true) (m1 : y1 ∈ ms) (m2 : y2 ∈ ms) : PairOK J24 T y1 y2 as h := (p.fr hn m1 m2).mono (fun _ _ t => t) (fun _ q => ⟨q.1, K24.fr hJ.1 hJ.2 q.2⟩)
theorem J24_C : Jst J24 HC := by
  intro h h1 j g1 f
  have g := gH.eq eq_HCr j.1.1
  have s := from_of HC_len any_C f g g1
  refine ⟨J1_C h h1 j.1 g1 f, ?_⟩
  unfold K24
  rw [fI_fz f g g1 (show a_fd HC 2 2 6 = some (.inr (0, 8, true)) from rfl), fI_cong (s 123 (by omega))]
  exact j.2
theorem J24_M : Jst J24 HM := by
  intro h h1 j g1 f
  have g := gH.eq eq_HMr j.1.2.1
  have s := to_of any_M f g g1
  refine ⟨J1_M h h1 j.1 g1 f, ?_⟩
  unfold K24
  rw [fI_fz f g g1 (show a_fd HM 7 37 123 = some (.inr (0, 8, true)) from rfl), fI_cong (s 6 (by omega))]
  exact j.2
theorem J24_0 : J24 h0 := ⟨J1_0, show fI h0 6 2 = fI h0 123 37 by decide +kernel⟩
theorem pair_seen {h : MH} (p1 p2 : Int32) (hJ : J24 h) : PairOK J24 TE 58 156 [.int p1, .int p2] h := by
  refine pair_rp hJ.1.1 (M1 := m_X6_seen) (M2 := m_X7_seen) rfl rfl rfl rfl (x_seenE p1 p2 h hJ.1.1) (fun r h1 q => (J1_Cs h h1 hJ.1 q.1 q.2.1).2.1) (fun r h1 q => ?_)
  obtain ⟨g1, f1, q⟩ := q
  have j1 := J1_Cs h h1 hJ.1 g1 f1
  have s1 := from_of HCs_len any_Cs f1 hJ.1.1 g1
  have e1 : fI h1 123 37 = fI h 6 2 := (fI_cong (s1 123 (by omega))).trans hJ.2.symm
  refine (y_seenE p1 p2 h1 j1.2.1).mono (fun r2 h2 w => ?_)
  obtain ⟨g2, f2, w⟩ := w
  have s2 := to_of any_Ms f2 j1.2.1 g2
  have j2 := J1_Ms h1 h2 j1 g2 f2
  have e2 : fI h2 6 2 = fI h1 6 2 := fI_cong (s2 6 (by omega))
  rw [e1] at w
  rcases q with ⟨q0, rfl, rfl⟩ | ⟨q0, q1, rfl, rfl⟩ | ⟨q0, q1, rfl, rfl⟩
  · rcases w with ⟨-, rfl, rfl⟩ | ⟨w0, -⟩ | ⟨w0, -⟩
    · exact ⟨⟨_, rfl, rfl⟩, j2, e2.trans e1.symm⟩
    · exact absurd w0 q0
    · exact absurd w0 q0
  · rcases w with ⟨w0, -⟩ | ⟨-, -, rfl, rfl⟩ | ⟨-, w1, -⟩
    · exact absurd q0 w0
    · exact ⟨⟨_, rfl, rfl⟩, j2, e2.trans e1.symm⟩
    · exact absurd q1 w1
  · rcases w with ⟨w0, -⟩ | ⟨-, w1, -⟩ | ⟨-, -, rfl, rfl⟩
    · exact absurd q0 w0
    · exact absurd w1 q1
    · refine ⟨⟨_, rfl, rfl⟩, j2, ?_⟩
      unfold K24
      rw [e2, snX_n hJ.1.1, snY_n j1.2.1, e1]
theorem pair_forget {h : MH} (hJ : J24 h) : PairOK J24 TE 59 157 [] h := by
  refine pair_rp hJ.1.1 (M1 := m_X6_forget) (M2 := m_X7_forget) rfl rfl rfl rfl (x_forgetE h hJ.1.1) (fun r h1 q => (J1_Cs h h1 hJ.1 q.1 q.2.1).2.1) (fun r h1 q => ?_)
  obtain ⟨g1, f1, rfl, rfl⟩ := q
  have j1 := J1_Cs _ _ hJ.1 g1 f1
  have s1 := from_of HCs_len any_Cs f1 hJ.1.1 g1
  have e1 : fI (setF h 6 2 0) 123 37 = fI h 6 2 := (fI_cong (s1 123 (by omega))).trans hJ.2.symm
  refine (y_forgetE _ j1.2.1).mono (fun r2 h2 w => ?_)
  obtain ⟨g2, f2, rfl, rfl⟩ := w
  have s2 := to_of any_Ms f2 j1.2.1 g2
  refine ⟨⟨_, rfl, by rw [e1]⟩, J1_Ms _ _ j1 g2 f2, ?_⟩
  unfold K24
  rw [fI_cong (s2 6 (by omega)), fI_eq hJ.1.1 (show a_fd HCs 2 2 6 = some (.inr (0, 8, false)) from rfl), fI_eq j1.2.1 (show a_fd HMs 7 37 123 = some (.inr (0, 8, false)) from rfl)]
