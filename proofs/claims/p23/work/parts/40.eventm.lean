/-! the model: event, back, seen: they return and keep the ranges and the texts -/
theorem m_eq_iff {x y : Int32} : m_cmp .eq x y = true ↔ x = y := ⟨fun h => of_decide_eq_true h, fun h => decide_eq_true h⟩
section PRE
variable {M : MM} {i : Nat} {L : ML} {st rest : List Value} {h : MH} {P : Option Value → MH → Prop} {v : Int32}
theorem c_isThree (hs : mstep false [] M i L st h = some (.inr (.inl (99, [.int v], rest)))) (kt : 0 ≤ v.toInt → v.toInt ≤ 2 → RP M (i + 1) L (.int 1 :: rest) h P) (kf : ¬ (0 ≤ v.toInt ∧ v.toInt ≤ 2) → RP M (i + 1) L (.int 0 :: rest) h P) : RP M i L st h P := by
  have z0 : (0 : Int32).toInt = 0 := by decide
  have z2 : (2 : Int32).toInt = 2 := by decide
  refine RP.call (M1 := m_X7_isThree) (P1 := fun r h1 => h1 = h ∧ ((0 ≤ v.toInt ∧ v.toInt ≤ 2 ∧ r = some (.int 1)) ∨ (¬ (0 ≤ v.toInt ∧ v.toInt ≤ 2) ∧ r = some (.int 0)))) hs rfl rfl ?_ (fun r h1 q => ?_)
  · refine RP.step rfl ?_
    refine RP.step rfl ?_
    refine RP.step rfl ?_
    refine c_in (v := v) (a := 0) (b := 2) rfl (fun q1 q2 => ?_) (fun q1 => ?_)
    · exact RP.ret rfl ⟨rfl, Or.inl ⟨by omega, by omega, rfl⟩⟩
    · exact RP.ret rfl ⟨rfl, Or.inr ⟨by omega, rfl⟩⟩
  · obtain ⟨rfl, ⟨q1, q2, rfl⟩ | ⟨q1, rfl⟩⟩ := q
    · exact kt q1 q2
    · exact kf q1
theorem c_isMinute (hs : mstep false [] M i L st h = some (.inr (.inl (97, [.int v], rest)))) (kt : 0 ≤ v.toInt → v.toInt ≤ 23 → RP M (i + 1) L (.int 1 :: rest) h P) (kf : ¬ (0 ≤ v.toInt ∧ v.toInt ≤ 23) → RP M (i + 1) L (.int 0 :: rest) h P) : RP M i L st h P := by
  have z0 : (0 : Int32).toInt = 0 := by decide
  have z2 : (23 : Int32).toInt = 23 := by decide
  refine RP.call (M1 := m_X7_isMinute) (P1 := fun r h1 => h1 = h ∧ ((0 ≤ v.toInt ∧ v.toInt ≤ 23 ∧ r = some (.int 1)) ∨ (¬ (0 ≤ v.toInt ∧ v.toInt ≤ 23) ∧ r = some (.int 0)))) hs rfl rfl ?_ (fun r h1 q => ?_)
  · refine RP.step rfl ?_
    refine RP.step rfl ?_
    refine RP.step rfl ?_
    refine c_in (v := v) (a := 0) (b := 23) rfl (fun q1 q2 => ?_) (fun q1 => ?_)
    · exact RP.ret rfl ⟨rfl, Or.inl ⟨by omega, by omega, rfl⟩⟩
    · exact RP.ret rfl ⟨rfl, Or.inr ⟨by omega, rfl⟩⟩
  · obtain ⟨rfl, ⟨q1, q2, rfl⟩ | ⟨q1, rfl⟩⟩ := q
    · exact kt q1 q2
    · exact kf q1
theorem c_isEight (hs : mstep false [] M i L st h = some (.inr (.inl (100, [.int v], rest)))) (kt : 0 ≤ v.toInt → v.toInt ≤ 7 → RP M (i + 1) L (.int 1 :: rest) h P) (kf : ¬ (0 ≤ v.toInt ∧ v.toInt ≤ 7) → RP M (i + 1) L (.int 0 :: rest) h P) : RP M i L st h P := by
  have z0 : (0 : Int32).toInt = 0 := by decide
  have z2 : (7 : Int32).toInt = 7 := by decide
  refine RP.call (M1 := m_X7_isEight) (P1 := fun r h1 => h1 = h ∧ ((0 ≤ v.toInt ∧ v.toInt ≤ 7 ∧ r = some (.int 1)) ∨ (¬ (0 ≤ v.toInt ∧ v.toInt ≤ 7) ∧ r = some (.int 0)))) hs rfl rfl ?_ (fun r h1 q => ?_)
  · refine RP.step rfl ?_
    refine RP.step rfl ?_
    refine RP.step rfl ?_
    refine c_in (v := v) (a := 0) (b := 7) rfl (fun q1 q2 => ?_) (fun q1 => ?_)
    · exact RP.ret rfl ⟨rfl, Or.inl ⟨by omega, by omega, rfl⟩⟩
    · exact RP.ret rfl ⟨rfl, Or.inr ⟨by omega, rfl⟩⟩
  · obtain ⟨rfl, ⟨q1, q2, rfl⟩ | ⟨q1, rfl⟩⟩ := q
    · exact kt q1 q2
    · exact kf q1
theorem c_isSheet (hs : mstep false [] M i L st h = some (.inr (.inl (171, [.int v], rest)))) (kt : 0 ≤ v.toInt → v.toInt ≤ 3 → RP M (i + 1) L (.int 1 :: rest) h P) (kf : ¬ (0 ≤ v.toInt ∧ v.toInt ≤ 3) → RP M (i + 1) L (.int 0 :: rest) h P) : RP M i L st h P := by
  have z0 : (0 : Int32).toInt = 0 := by decide
  have z2 : (3 : Int32).toInt = 3 := by decide
  refine RP.call (M1 := m_X7_isSheet) (P1 := fun r h1 => h1 = h ∧ ((0 ≤ v.toInt ∧ v.toInt ≤ 3 ∧ r = some (.int 1)) ∨ (¬ (0 ≤ v.toInt ∧ v.toInt ≤ 3) ∧ r = some (.int 0)))) hs rfl rfl ?_ (fun r h1 q => ?_)
  · refine RP.step rfl ?_
    refine RP.step rfl ?_
    refine RP.step rfl ?_
    refine c_in (v := v) (a := 0) (b := 3) rfl (fun q1 q2 => ?_) (fun q1 => ?_)
    · exact RP.ret rfl ⟨rfl, Or.inl ⟨by omega, by omega, rfl⟩⟩
    · exact RP.ret rfl ⟨rfl, Or.inr ⟨by omega, rfl⟩⟩
  · obtain ⟨rfl, ⟨q1, q2, rfl⟩ | ⟨q1, rfl⟩⟩ := q
    · exact kt q1 q2
    · exact kf q1
end PRE
theorem y_event (p1 p2 p3 : Int32) (h : MH) (gh : gH HMs h) : RP m_X7_event 0 (m_ent 4 [.ref 123, .int p1, .int p2, .int p3]) [] h (KP HMs (-4) 8 h) := by
  have bad : RP m_X7_event 9 (m_ent 4 [.ref 123, .int p1, .int p2, .int p3]) [] h (KP HMs (-4) 8 h) := by
    refine RP.step rfl ?_
    exact RP.ret rfl (KP.c gh (-2) (by decide) (by decide))
  have hf : a_fd HMs 7 11 123 = some (.inr (0, 8, false)) := rfl
  obtain ⟨-, -, -, f1, f2⟩ := fI_sp gh hf
  have z8 : (8 : Int32).toInt = 8 := by decide
  have s1 : (1 : Int32).toInt = 1 := by decide
  refine RP.step rfl ?_
  refine c_isThree (v := p1) rfl (fun a1 a2 => ?_) (fun q => RP.step rfl bad)
  refine RP.step rfl ?_
  refine RP.step rfl ?_
  refine c_isMinute (v := p2) rfl (fun b1 b2 => ?_) (fun q => RP.step rfl bad)
  refine RP.step rfl ?_
  refine RP.step rfl ?_
  refine c_isEight (v := p3) rfl (fun c1 c2 => ?_) (fun q => RP.step rfl bad)
  refine RP.step rfl ?_
  refine RP.step rfl ?_
  refine RP.getI rfl gh rfl (fun _ _ => ?_)
  refine RP.step rfl ?_
  refine RP.icmp (x := fI h 123 11) (y := 8) rfl (fun d1 => ?_) (fun d1 => RP.step rfl (RP.ret rfl (KP.c gh (-4) (by decide) (by decide))))
  have hn := m_ne_iff.mp d1
  generalize hs : fI h 123 11 = s at *
  have l8 : ¬ s.toInt = 8 := fun q => hn (Int32.toInt_inj.mp (q.trans z8.symm))
  have ls : (s + 1).toInt = s.toInt + 1 := (i32_add (by omega) (by omega)).trans (by omega)
  refine RP.step rfl ?_
  refine RP.getR rfl gh rfl ?_
  refine RP.step rfl ?_
  refine RP.getI rfl gh rfl (fun _ _ => ?_)
  show RP m_X7_event _ _ (Value.int (fI (h) 123 11) :: _) _ _
  rw [hs]
  refine RP.step rfl ?_
  refine RP.ast (j := s) (x := p1) rfl gh rfl f1 (by show _ < ((8 : Nat) : Int); omega) ?_
  obtain ⟨g0, t0⟩ := setA_s (j := s.toNatClampNeg) (x := p1) gh (show HMs[130]? = some (.inl (0, 8, -2147483648, 2147483647, false)) from rfl) (i32_ge _) (i32_le _)
  have w0 : fI (setA (h) 130 s.toNatClampNeg p1) 123 11 = s := (fI_cong (setA_ne (by decide))).trans hs
  refine RP.step rfl ?_
  refine RP.getR rfl g0 rfl ?_
  refine RP.step rfl ?_
  refine RP.getI rfl g0 rfl (fun _ _ => ?_)
  show RP m_X7_event _ _ (Value.int (fI (setA (h) 130 s.toNatClampNeg p1) 123 11) :: _) _ _
  rw [w0]
  refine RP.step rfl ?_
  refine RP.ast (j := s) (x := p2) rfl g0 rfl f1 (by show _ < ((8 : Nat) : Int); omega) ?_
  obtain ⟨g1, t1⟩ := setA_s (j := s.toNatClampNeg) (x := p2) g0 (show HMs[131]? = some (.inl (0, 8, -2147483648, 2147483647, false)) from rfl) (i32_ge _) (i32_le _)
  have w1 : fI (setA (setA (h) 130 s.toNatClampNeg p1) 131 s.toNatClampNeg p2) 123 11 = s := (fI_cong (setA_ne (by decide))).trans w0
  refine RP.step rfl ?_
  refine RP.getR rfl g1 rfl ?_
  refine RP.step rfl ?_
  refine RP.getI rfl g1 rfl (fun _ _ => ?_)
  show RP m_X7_event _ _ (Value.int (fI (setA (setA (h) 130 s.toNatClampNeg p1) 131 s.toNatClampNeg p2) 123 11) :: _) _ _
  rw [w1]
  refine RP.step rfl ?_
  refine RP.ast (j := s) (x := p3) rfl g1 rfl f1 (by show _ < ((8 : Nat) : Int); omega) ?_
  obtain ⟨g2, t2⟩ := setA_s (j := s.toNatClampNeg) (x := p3) g1 (show HMs[132]? = some (.inl (0, 8, -2147483648, 2147483647, false)) from rfl) (i32_ge _) (i32_le _)
  have w2 : fI (setA (setA (setA (h) 130 s.toNatClampNeg p1) 131 s.toNatClampNeg p2) 132 s.toNatClampNeg p3) 123 11 = s := (fI_cong (setA_ne (by decide))).trans w1
  refine RP.step rfl ?_
  refine RP.step rfl ?_
  refine RP.getI rfl g2 rfl (fun _ _ => ?_)
  show RP m_X7_event _ _ (Value.int (fI (setA (setA (setA (h) 130 s.toNatClampNeg p1) 131 s.toNatClampNeg p2) 132 s.toNatClampNeg p3) 123 11) :: _) _ _
  rw [w2]
  refine RP.step rfl ?_
  refine RP.step rfl ?_
  refine RP.putI (x := s + 1) rfl g2 hf rfl ?_
  obtain ⟨g9, t9⟩ := setF_s (x := s + 1) g2 hf (by omega) (by omega)
  refine RP.step rfl ?_
  refine RP.getI rfl g9 rfl (fun e1 e2 => ?_)
  exact RP.ret rfl ⟨g9, fH.tr g2 (fH.tr g1 (fH.tr g0 t0 t1) t2) t9, _, rfl, by omega, by omega⟩
theorem y_back (h : MH) (gh : gH HMs h) : RP m_X7_back 0 (m_ent 1 [.ref 123]) [] h (KP HMs (-3) 8 h) := by
  have hf : a_fd HMs 7 11 123 = some (.inr (0, 8, false)) := rfl
  obtain ⟨-, -, -, f1, f2⟩ := fI_sp gh hf
  refine RP.step rfl ?_
  refine RP.getI rfl gh rfl (fun _ _ => ?_)
  refine RP.ifc (x := fI h 123 11) rfl (fun c1 => ?_) (fun c1 => RP.step rfl (RP.ret rfl (KP.c gh (-3) (by decide) (by decide))))
  have hn0 : ¬ fI h 123 11 = 0 := m_ne0.mp c1
  have l3 : ¬ (fI h 123 11).toInt = 0 := fun q => hn0 (Int32.toInt_inj.mp (q.trans (by decide)))
  have s1 : (1 : Int32).toInt = 1 := by decide
  have ls : (fI h 123 11 - 1).toInt = (fI h 123 11).toInt - 1 := (i32_sub (by omega) (by omega)).trans (by omega)
  refine RP.step rfl ?_
  refine RP.step rfl ?_
  refine RP.getI rfl gh rfl (fun _ _ => ?_)
  refine RP.step rfl ?_
  refine RP.step rfl ?_
  refine RP.putI (x := fI h 123 11 - 1) rfl gh hf rfl ?_
  obtain ⟨g1, t1⟩ := setF_s (x := fI h 123 11 - 1) gh hf (by omega) (by omega)
  refine RP.step rfl ?_
  refine RP.getI rfl g1 rfl (fun e1 e2 => ?_)
  exact RP.ret rfl ⟨g1, t1, _, rfl, by omega, by omega⟩
theorem y_seen (p1 p2 : Int32) (h : MH) (gh : gH HMs h) : RP m_X7_seen 0 (m_ent 3 [.ref 123, .int p1, .int p2]) [] h (KP HMs (-4) 8 h) := by
  have bad : RP m_X7_seen 8 (m_ent 3 [.ref 123, .int p1, .int p2]) [] h (KP HMs (-4) 8 h) := by
    refine RP.step rfl ?_
    exact RP.ret rfl (KP.c gh (-2) (by decide) (by decide))
  have hf : a_fd HMs 7 37 123 = some (.inr (0, 8, false)) := rfl
  obtain ⟨-, -, -, f1, f2⟩ := fI_sp gh hf
  have z8 : (8 : Int32).toInt = 8 := by decide
  have s1 : (1 : Int32).toInt = 1 := by decide
  refine RP.step rfl ?_
  refine c_isMinute (v := p1) rfl (fun a1 a2 => ?_) (fun q => RP.step rfl bad)
  refine RP.step rfl ?_
  refine RP.step rfl ?_
  refine RP.step rfl ?_
  refine RP.step rfl ?_
  refine c_in (v := p2) (a := 0) (b := 20) rfl (fun b1 b2 => ?_) (fun q => RP.step rfl bad)
  refine RP.step rfl ?_
  refine RP.step rfl ?_
  refine RP.getI rfl gh rfl (fun _ _ => ?_)
  refine RP.step rfl ?_
  refine RP.icmp (x := fI h 123 37) (y := 8) rfl (fun d1 => ?_) (fun d1 => RP.step rfl (RP.ret rfl (KP.c gh (-4) (by decide) (by decide))))
  have hn := m_ne_iff.mp d1
  generalize hs : fI h 123 37 = s at *
  have l8 : ¬ s.toInt = 8 := fun q => hn (Int32.toInt_inj.mp (q.trans z8.symm))
  have ls : (s + 1).toInt = s.toInt + 1 := (i32_add (by omega) (by omega)).trans (by omega)
  refine RP.step rfl ?_
  refine RP.getR rfl gh rfl ?_
  refine RP.step rfl ?_
  refine RP.getI rfl gh rfl (fun _ _ => ?_)
  show RP m_X7_seen _ _ (Value.int (fI (h) 123 37) :: _) _ _
  rw [hs]
  refine RP.step rfl ?_
  refine RP.ast (j := s) (x := p1) rfl gh rfl f1 (by show _ < ((8 : Nat) : Int); omega) ?_
  obtain ⟨g0, t0⟩ := setA_s (j := s.toNatClampNeg) (x := p1) gh (show HMs[145]? = some (.inl (0, 8, 0, 23, false)) from rfl) (by omega) (by omega)
  have w0 : fI (setA (h) 145 s.toNatClampNeg p1) 123 37 = s := (fI_cong (setA_ne (by decide))).trans hs
  refine RP.step rfl ?_
  refine RP.getR rfl g0 rfl ?_
  refine RP.step rfl ?_
  refine RP.getI rfl g0 rfl (fun _ _ => ?_)
  show RP m_X7_seen _ _ (Value.int (fI (setA (h) 145 s.toNatClampNeg p1) 123 37) :: _) _ _
  rw [w0]
  refine RP.step rfl ?_
  refine RP.ast (j := s) (x := p2) rfl g0 rfl f1 (by show _ < ((8 : Nat) : Int); omega) ?_
  obtain ⟨g1, t1⟩ := setA_s (j := s.toNatClampNeg) (x := p2) g0 (show HMs[146]? = some (.inl (0, 8, -2147483648, 2147483647, false)) from rfl) (i32_ge _) (i32_le _)
  have w1 : fI (setA (setA (h) 145 s.toNatClampNeg p1) 146 s.toNatClampNeg p2) 123 37 = s := (fI_cong (setA_ne (by decide))).trans w0
  refine RP.step rfl ?_
  refine RP.step rfl ?_
  refine RP.getI rfl g1 rfl (fun _ _ => ?_)
  show RP m_X7_seen _ _ (Value.int (fI (setA (setA (h) 145 s.toNatClampNeg p1) 146 s.toNatClampNeg p2) 123 37) :: _) _ _
  rw [w1]
  refine RP.step rfl ?_
  refine RP.step rfl ?_
  refine RP.putI (x := s + 1) rfl g1 hf rfl ?_
  obtain ⟨g9, t9⟩ := setF_s (x := s + 1) g1 hf (by omega) (by omega)
  refine RP.step rfl ?_
  refine RP.getI rfl g9 rfl (fun e1 e2 => ?_)
  exact RP.ret rfl ⟨g9, fH.tr g1 (fH.tr g0 t0 t1) t9, _, rfl, by omega, by omega⟩
