/-! event, back, seen: they return and keep the ranges and the texts -/
theorem setF_s {H : AH} {h : MH} {ci k a : Nat} {lo hi : Int} {x : Int32} (gh : gH H h) (hf : a_fd H ci k a = some (.inr (lo, hi, false))) (x1 : lo ≤ x.toInt) (x2 : x.toInt ≤ hi) : gH H (setF h a k x) ∧ fH H h (setF h a k x) := by
  obtain ⟨fs, vs, v, hc, hfk, hx, hl, hv, -, hb⟩ := fd_sp gh hf
  have hk : k < vs.length := (List.getElem?_eq_some_iff.mp hv).1
  have e : setF h a k x = h.set a (.inr (ci, vs.set k (.int x))) := by unfold setF; rw [hx]
  rw [e]
  refine gh.set hc hx ⟨_, rfl, by simp [hl], fun j f hj => ?_⟩ (fun ci2 vs2 e2 => ?_)
  · by_cases e : k = j
    · subst e
      rw [hfk] at hj
      cases hj
      exact ⟨.int x, List.getElem?_set_self hk, x, rfl, x1, x2⟩
    · rw [List.getElem?_set_ne e]
      exact hb j f hj
  · cases e2
    refine ⟨_, rfl, fun j f hj hn => ?_⟩
    by_cases e : k = j
    · subst e
      rw [hfk] at hj
      cases hj
      exact absurd rfl (hn _ _)
    · exact List.getElem?_set_ne e
theorem setA_s {H : AH} {h : MH} {t n a j : Nat} {lo hi : Int} {x : Int32} (gh : gH H h) (hf : H[a]? = some (.inl (t, n, lo, hi, false))) (x1 : lo ≤ x.toInt) (x2 : x.toInt ≤ hi) : gH H (setA h a j x) ∧ fH H h (setA h a j x) := by
  obtain ⟨y, hy, l, rfl, hl, hb⟩ := gh.2 a _ hf
  have e : setA h a j x = h.set a (.inl (t, .inl (l.set j x))) := by unfold setA; rw [hy]
  rw [e]
  refine gh.set hf hy ⟨_, rfl, by simp [hl], fun z hz => ?_⟩ (fun q => by cases q)
  rcases List.mem_or_eq_of_mem_set hz with hz | rfl
  · exact hb z hz
  · exact ⟨x1, x2⟩
/-- returns an int of a range; ranges and frozen cells stay -/
def KP (H : AH) (lo hi : Int) (h : MH) (r : Option Value) (h1 : MH) : Prop := gH H h1 ∧ fH H h h1 ∧ ∃ v : Int32, r = some (.int v) ∧ lo ≤ v.toInt ∧ v.toInt ≤ hi
theorem KP.c {H : AH} {lo hi : Int} {h : MH} (gh : gH H h) (v : Int32) (v1 : lo ≤ v.toInt) (v2 : v.toInt ≤ hi) : KP H lo hi h (some (.int v)) h := ⟨gh, fH.rf H h, v, rfl, v1, v2⟩

theorem x_appE (p1 : Int32) (p2 : Int32) (p3 : Int32) (h : MH) (gh : gH HCs h) (hs : (fI h 2 3).toInt < 8) (m2 : 0 ≤ p2.toInt) (n2 : p2.toInt ≤ 23) : RP m_X1_append 0 (m_ent 4 [.ref 2, .int p1, .int p2, .int p3]) [] h (fun r h1 => r = none ∧ gH HCs h1 ∧ fH HCs h h1) := by
  have hf : a_fd HCs 1 3 2 = some (.inr (0, 8, false)) := rfl
  obtain ⟨-, -, -, f1, f2⟩ := fI_sp gh hf
  refine RP.step rfl ?_
  refine RP.getR rfl gh rfl ?_
  refine RP.step rfl ?_
  refine RP.getI rfl gh rfl (fun _ _ => ?_)
  refine RP.step rfl ?_
  refine RP.ast (j := fI h 2 3) (x := p1) rfl gh rfl f1 (by show _ < ((8 : Nat) : Int); omega) ?_
  obtain ⟨g0, t0⟩ := setA_s (j := (fI h 2 3).toNatClampNeg) (x := p1) gh (show HCs[3]? = some (.inl (0, 8, -2147483648, 2147483647, false)) from rfl) (i32_ge _) (i32_le _)
  have w0 : fI (setA (h) 3 (fI h 2 3).toNatClampNeg p1) 2 3 = fI h 2 3 := (fI_cong (setA_ne (by decide)))
  refine RP.step rfl ?_
  refine RP.getR rfl g0 rfl ?_
  refine RP.step rfl ?_
  refine RP.getI rfl g0 rfl (fun _ _ => ?_)
  show RP m_X1_append _ _ (Value.int (fI (setA (h) 3 (fI h 2 3).toNatClampNeg p1) 2 3) :: _) _ _
  rw [w0]
  refine RP.step rfl ?_
  refine RP.ast (j := fI h 2 3) (x := p2) rfl g0 rfl f1 (by show _ < ((8 : Nat) : Int); omega) ?_
  obtain ⟨g1, t1⟩ := setA_s (j := (fI h 2 3).toNatClampNeg) (x := p2) g0 (show HCs[4]? = some (.inl (0, 8, 0, 23, false)) from rfl) m2 n2
  have w1 : fI (setA (setA (h) 3 (fI h 2 3).toNatClampNeg p1) 4 (fI h 2 3).toNatClampNeg p2) 2 3 = fI h 2 3 := (fI_cong (setA_ne (by decide))).trans w0
  refine RP.step rfl ?_
  refine RP.getR rfl g1 rfl ?_
  refine RP.step rfl ?_
  refine RP.getI rfl g1 rfl (fun _ _ => ?_)
  show RP m_X1_append _ _ (Value.int (fI (setA (setA (h) 3 (fI h 2 3).toNatClampNeg p1) 4 (fI h 2 3).toNatClampNeg p2) 2 3) :: _) _ _
  rw [w1]
  refine RP.step rfl ?_
  refine RP.ast (j := fI h 2 3) (x := p3) rfl g1 rfl f1 (by show _ < ((8 : Nat) : Int); omega) ?_
  obtain ⟨g2, t2⟩ := setA_s (j := (fI h 2 3).toNatClampNeg) (x := p3) g1 (show HCs[5]? = some (.inl (0, 8, -2147483648, 2147483647, false)) from rfl) (i32_ge _) (i32_le _)
  have w2 : fI (setA (setA (setA (h) 3 (fI h 2 3).toNatClampNeg p1) 4 (fI h 2 3).toNatClampNeg p2) 5 (fI h 2 3).toNatClampNeg p3) 2 3 = fI h 2 3 := (fI_cong (setA_ne (by decide))).trans w1
  have s1 : (1 : Int32).toInt = 1 := by decide
  have ls : (fI h 2 3 + 1).toInt = (fI h 2 3).toInt + 1 := (i32_add (by omega) (by omega)).trans (by omega)
  refine RP.step rfl ?_
  refine RP.step rfl ?_
  refine RP.getI rfl g2 rfl (fun _ _ => ?_)
  show RP m_X1_append _ _ (Value.int (fI (setA (setA (setA (h) 3 (fI h 2 3).toNatClampNeg p1) 4 (fI h 2 3).toNatClampNeg p2) 5 (fI h 2 3).toNatClampNeg p3) 2 3) :: _) _ _
  rw [w2]
  refine RP.step rfl ?_
  refine RP.step rfl ?_
  refine RP.putI (x := fI h 2 3 + 1) rfl g2 hf rfl ?_
  obtain ⟨g9, t9⟩ := setF_s (x := fI h 2 3 + 1) g2 hf (by omega) (by omega)
  exact RP.ret rfl ⟨rfl, g9, fH.tr g2 (fH.tr g1 (fH.tr g0 t0 t1) t2) t9⟩

theorem x_appS (p1 : Int32) (p2 : Int32) (h : MH) (gh : gH HCs h) (hs : (fI h 6 2).toInt < 8) (m1 : 0 ≤ p1.toInt) (n1 : p1.toInt ≤ 23) : RP m_X2_append 0 (m_ent 3 [.ref 6, .int p1, .int p2]) [] h (fun r h1 => r = none ∧ gH HCs h1 ∧ fH HCs h h1) := by
  have hf : a_fd HCs 2 2 6 = some (.inr (0, 8, false)) := rfl
  obtain ⟨-, -, -, f1, f2⟩ := fI_sp gh hf
  refine RP.step rfl ?_
  refine RP.getR rfl gh rfl ?_
  refine RP.step rfl ?_
  refine RP.getI rfl gh rfl (fun _ _ => ?_)
  refine RP.step rfl ?_
  refine RP.ast (j := fI h 6 2) (x := p1) rfl gh rfl f1 (by show _ < ((8 : Nat) : Int); omega) ?_
  obtain ⟨g0, t0⟩ := setA_s (j := (fI h 6 2).toNatClampNeg) (x := p1) gh (show HCs[7]? = some (.inl (0, 8, 0, 23, false)) from rfl) m1 n1
  have w0 : fI (setA (h) 7 (fI h 6 2).toNatClampNeg p1) 6 2 = fI h 6 2 := (fI_cong (setA_ne (by decide)))
  refine RP.step rfl ?_
  refine RP.getR rfl g0 rfl ?_
  refine RP.step rfl ?_
  refine RP.getI rfl g0 rfl (fun _ _ => ?_)
  show RP m_X2_append _ _ (Value.int (fI (setA (h) 7 (fI h 6 2).toNatClampNeg p1) 6 2) :: _) _ _
  rw [w0]
  refine RP.step rfl ?_
  refine RP.ast (j := fI h 6 2) (x := p2) rfl g0 rfl f1 (by show _ < ((8 : Nat) : Int); omega) ?_
  obtain ⟨g1, t1⟩ := setA_s (j := (fI h 6 2).toNatClampNeg) (x := p2) g0 (show HCs[8]? = some (.inl (0, 8, -2147483648, 2147483647, false)) from rfl) (i32_ge _) (i32_le _)
  have w1 : fI (setA (setA (h) 7 (fI h 6 2).toNatClampNeg p1) 8 (fI h 6 2).toNatClampNeg p2) 6 2 = fI h 6 2 := (fI_cong (setA_ne (by decide))).trans w0
  have s1 : (1 : Int32).toInt = 1 := by decide
  have ls : (fI h 6 2 + 1).toInt = (fI h 6 2).toInt + 1 := (i32_add (by omega) (by omega)).trans (by omega)
  refine RP.step rfl ?_
  refine RP.step rfl ?_
  refine RP.getI rfl g1 rfl (fun _ _ => ?_)
  show RP m_X2_append _ _ (Value.int (fI (setA (setA (h) 7 (fI h 6 2).toNatClampNeg p1) 8 (fI h 6 2).toNatClampNeg p2) 6 2) :: _) _ _
  rw [w1]
  refine RP.step rfl ?_
  refine RP.step rfl ?_
  refine RP.putI (x := fI h 6 2 + 1) rfl g1 hf rfl ?_
  obtain ⟨g9, t9⟩ := setF_s (x := fI h 6 2 + 1) g1 hf (by omega) (by omega)
  exact RP.ret rfl ⟨rfl, g9, fH.tr g1 (fH.tr g0 t0 t1) t9⟩

theorem x_event (p1 p2 p3 : Int32) (h : MH) (gh : gH HCs h) : RP m_X6_event 0 (m_ent 4 [.ref 0, .int p1, .int p2, .int p3]) [] h (KP HCs (-4) 8 h) := by
  have bad : RP m_X6_event 12 (m_ent 4 [.ref 0, .int p1, .int p2, .int p3]) [] h (KP HCs (-4) 8 h) := by
    refine RP.step rfl ?_
    exact RP.ret rfl (KP.c gh (-2) (by decide) (by decide))
  refine RP.step rfl ?_
  refine RP.step rfl ?_
  refine c_isBelow (v := p1) (n := 3) rfl (fun a1 a2 => ?_) (fun q => RP.step rfl bad)
  refine RP.step rfl ?_
  refine RP.step rfl ?_
  refine RP.step rfl ?_
  refine c_isBelow (v := p2) (n := 24) rfl (fun b1 b2 => ?_) (fun q => RP.step rfl bad)
  refine RP.step rfl ?_
  refine RP.step rfl ?_
  refine RP.step rfl ?_
  refine c_isBelow (v := p3) (n := 8) rfl (fun c1 c2 => ?_) (fun q => RP.step rfl bad)
  have z24 : (24 : Int32).toInt = 24 := by decide
  have z8 : (8 : Int32).toInt = 8 := by decide
  refine RP.step rfl ?_
  refine RP.step rfl ?_
  refine RP.getR rfl gh rfl ?_
  refine RP.getI rfl gh rfl (fun _ _ => ?_)
  refine RP.step rfl ?_
  refine RP.icmp (x := fI h 2 3) (y := 8) rfl (fun d1 => ?_) (fun d1 => ?_)
  · have hs := m_lt_iff.mp d1
    rw [z8] at hs
    refine RP.step rfl ?_
    refine RP.getR rfl gh rfl ?_
    refine RP.step rfl ?_
    refine RP.step rfl ?_
    refine RP.step rfl ?_
    obtain ⟨vs, hx⟩ := ob_sp (a := 2) (ci := 1) gh rfl
    refine RP.call (M1 := m_X1_append) (cv_step rfl rfl hx rfl rfl) rfl rfl (x_appE p1 p2 p3 h gh hs b1 (by omega)) (fun r h1 q => ?_)
    obtain ⟨rfl, g1, t1⟩ := q
    refine RP.step rfl ?_
    obtain ⟨vs2, hx2⟩ := ob_sp (a := 0) (ci := 6) g1 rfl
    refine RP.callP (cv_step rfl rfl hx2 rfl rfl) p_sc3 rfl ⟨⟨0, rfl, List.mem_singleton.mpr rfl⟩, trivial⟩ g1 (fun r h2 alt ha gr g2 t2 => ?_)
    have er : r = none := by
      have := List.mem_singleton.mp ha
      subst this
      cases r with
      | none => rfl
      | some v => exact gr.elim
    subst er
    refine RP.step rfl ?_
    refine RP.getR rfl g2 rfl ?_
    refine RP.getI rfl g2 rfl (fun e1 e2 => ?_)
    exact RP.ret rfl ⟨g2, fH.tr g1 t1 t2, _, rfl, by omega, by omega⟩
  · refine RP.step rfl ?_
    exact RP.ret rfl (KP.c gh (-4) (by decide) (by decide))
theorem x_back (h : MH) (gh : gH HCs h) : RP m_X6_back 0 (m_ent 1 [.ref 0]) [] h (KP HCs (-3) 8 h) := by
  have hf : a_fd HCs 1 3 2 = some (.inr (0, 8, false)) := rfl
  obtain ⟨-, -, -, f1, f2⟩ := fI_sp gh hf
  refine RP.step rfl ?_
  refine RP.getR rfl gh rfl ?_
  refine RP.getI rfl gh rfl (fun _ _ => ?_)
  refine RP.ifc (x := fI h 2 3) rfl (fun c1 => ?_) (fun c1 => ?_)
  · have hn0 : ¬ fI h 2 3 = 0 := m_ne0.mp c1
    have l3 : ¬ (fI h 2 3).toInt = 0 := fun q => hn0 (Int32.toInt_inj.mp (q.trans (by decide)))
    have s1 : (1 : Int32).toInt = 1 := by decide
    have ls : (fI h 2 3 - 1).toInt = (fI h 2 3).toInt - 1 := (i32_sub (by omega) (by omega)).trans (by omega)
    refine RP.step rfl ?_
    refine RP.getR rfl gh rfl ?_
    refine RP.step rfl ?_
    refine RP.getI rfl gh rfl (fun _ _ => ?_)
    refine RP.step rfl ?_
    refine RP.step rfl ?_
    refine RP.putI (x := fI h 2 3 - 1) rfl gh hf rfl ?_
    obtain ⟨g1, t1⟩ := setF_s (x := fI h 2 3 - 1) gh hf (by omega) (by omega)
    refine RP.step rfl ?_
    obtain ⟨vs2, hx2⟩ := ob_sp (a := 0) (ci := 6) g1 rfl
    refine RP.callP (cv_step rfl rfl hx2 rfl rfl) p_sc3 rfl ⟨⟨0, rfl, List.mem_singleton.mpr rfl⟩, trivial⟩ g1 (fun r h2 alt ha gr g2 t2 => ?_)
    have er : r = none := by
      have := List.mem_singleton.mp ha
      subst this
      cases r with
      | none => rfl
      | some v => exact gr.elim
    subst er
    refine RP.step rfl ?_
    refine RP.getR rfl g2 rfl ?_
    refine RP.getI rfl g2 rfl (fun e1 e2 => ?_)
    exact RP.ret rfl ⟨g2, fH.tr g1 t1 t2, _, rfl, by omega, by omega⟩
  · refine RP.step rfl ?_
    exact RP.ret rfl (KP.c gh (-3) (by decide) (by decide))
theorem x_seen (p1 p2 : Int32) (h : MH) (gh : gH HCs h) : RP m_X6_seen 0 (m_ent 3 [.ref 0, .int p1, .int p2]) [] h (KP HCs (-4) 8 h) := by
  have bad : RP m_X6_seen 8 (m_ent 3 [.ref 0, .int p1, .int p2]) [] h (KP HCs (-4) 8 h) := by
    refine RP.step rfl ?_
    exact RP.ret rfl (KP.c gh (-2) (by decide) (by decide))
  refine RP.step rfl ?_
  refine RP.step rfl ?_
  refine c_isBelow (v := p1) (n := 24) rfl (fun b1 b2 => ?_) (fun q => RP.step rfl bad)
  refine RP.step rfl ?_
  refine RP.step rfl ?_
  refine RP.step rfl ?_
  refine c_isBelow (v := p2) (n := 21) rfl (fun c1 c2 => ?_) (fun q => RP.step rfl bad)
  have z24 : (24 : Int32).toInt = 24 := by decide
  have z8 : (8 : Int32).toInt = 8 := by decide
  refine RP.step rfl ?_
  refine RP.step rfl ?_
  refine RP.getR rfl gh rfl ?_
  refine RP.getI rfl gh rfl (fun _ _ => ?_)
  refine RP.step rfl ?_
  refine RP.icmp (x := fI h 6 2) (y := 8) rfl (fun d1 => ?_) (fun d1 => ?_)
  · have hs := m_lt_iff.mp d1
    rw [z8] at hs
    refine RP.step rfl ?_
    refine RP.getR rfl gh rfl ?_
    refine RP.step rfl ?_
    refine RP.step rfl ?_
    obtain ⟨vs, hx⟩ := ob_sp (a := 6) (ci := 2) gh rfl
    refine RP.call (M1 := m_X2_append) (cv_step rfl rfl hx rfl rfl) rfl rfl (x_appS p1 p2 h gh hs b1 (by omega)) (fun r h1 q => ?_)
    obtain ⟨rfl, g1, t1⟩ := q
    refine RP.step rfl ?_
    refine RP.getR rfl g1 rfl ?_
    refine RP.getI rfl g1 rfl (fun e1 e2 => ?_)
    exact RP.ret rfl ⟨g1, t1, _, rfl, by omega, by omega⟩
  · refine RP.step rfl ?_
    exact RP.ret rfl (KP.c gh (-4) (by decide) (by decide))
