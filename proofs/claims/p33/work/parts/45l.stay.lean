/-! what the other setters of the model leave of the sheets (printed by wip/p1/stayx.py) -/
theorem ys_event (p1 p2 p3 : Int32) (h : MH) (gh : gH HMs h) : RP m_X7_event 0 (m_ent 4 [.ref 123, .int p1, .int p2, .int p3]) [] h (fun _ h1 => smY h h1) := by
  have bad : RP m_X7_event 9 (m_ent 4 [.ref 123, .int p1, .int p2, .int p3]) [] h (fun _ h1 => smY h h1) := by
    refine RP.step rfl ?_
    exact RP.ret rfl (smY.rf _)
  have hf : a_fd HMs 7 11 123 = some (.inr (0, 8, false)) := rfl
  obtain ⟨-, -, -, f1, f2⟩ := fI_sp gh hf
  have z8 : (8 : Int32).toInt = 8 := by decide
  have s1 : (1 : Int32).toInt = 1 := by decide
  refine RP.step rfl ?_
  refine c_isThree (v := p1) rfl (fun a1 a2 => ?_) (fun q => RP.step rfl bad)
  refine RP.step rfl ?_
  refine RP.step rfl ?_
  refine c_isMinute (v := p2) rfl (fun b1 b2 => ?_) (fun q => RP.step rfl bad)
  refine RP.step rfl ?_
  refine RP.step rfl ?_
  refine c_isEight (v := p3) rfl (fun c1 c2 => ?_) (fun q => RP.step rfl bad)
  refine RP.step rfl ?_
  refine RP.step rfl ?_
  refine RP.getI rfl gh rfl (fun _ _ => ?_)
  refine RP.step rfl ?_
  refine RP.icmp (x := fI h 123 11) (y := 8) rfl (fun d1 => ?_) (fun d1 => RP.step rfl (RP.ret rfl (smY.rf _)))
  have hn := m_ne_iff.mp d1
  generalize hs : fI h 123 11 = s at *
  have l8 : ¬ s.toInt = 8 := fun q => hn (Int32.toInt_inj.mp (q.trans z8.symm))
  have ls : (s + 1).toInt = s.toInt + 1 := (i32_add (by omega) (by omega)).trans (by omega)
  refine RP.step rfl ?_
  refine RP.getR rfl gh rfl ?_
  refine RP.step rfl ?_
  refine RP.getI rfl gh rfl (fun _ _ => ?_)
  show RP m_X7_event _ _ (Value.int (fI (h) 123 11) :: _) _ _
  rw [hs]
  refine RP.step rfl ?_
  refine RP.ast (j := s) (x := p1) rfl gh rfl f1 (by show _ < ((8 : Nat) : Int); omega) ?_
  obtain ⟨g0, t0⟩ := setA_s (j := s.toNatClampNeg) (x := p1) gh (show HMs[130]? = some (.inl (0, 8, -2147483648, 2147483647, false)) from rfl) (i32_ge _) (i32_le _)
  have w0 : fI (setA (h) 130 s.toNatClampNeg p1) 123 11 = s := (fI_cong (setA_ne (by decide))).trans hs
  refine RP.step rfl ?_
  refine RP.getR rfl g0 rfl ?_
  refine RP.step rfl ?_
  refine RP.getI rfl g0 rfl (fun _ _ => ?_)
  show RP m_X7_event _ _ (Value.int (fI (setA (h) 130 s.toNatClampNeg p1) 123 11) :: _) _ _
  rw [w0]
  refine RP.step rfl ?_
  refine RP.ast (j := s) (x := p2) rfl g0 rfl f1 (by show _ < ((8 : Nat) : Int); omega) ?_
  obtain ⟨g1, t1⟩ := setA_s (j := s.toNatClampNeg) (x := p2) g0 (show HMs[131]? = some (.inl (0, 8, -2147483648, 2147483647, false)) from rfl) (i32_ge _) (i32_le _)
  have w1 : fI (setA (setA (h) 130 s.toNatClampNeg p1) 131 s.toNatClampNeg p2) 123 11 = s := (fI_cong (setA_ne (by decide))).trans w0
  refine RP.step rfl ?_
  refine RP.getR rfl g1 rfl ?_
  refine RP.step rfl ?_
  refine RP.getI rfl g1 rfl (fun _ _ => ?_)
  show RP m_X7_event _ _ (Value.int (fI (setA (setA (h) 130 s.toNatClampNeg p1) 131 s.toNatClampNeg p2) 123 11) :: _) _ _
  rw [w1]
  refine RP.step rfl ?_
  refine RP.ast (j := s) (x := p3) rfl g1 rfl f1 (by show _ < ((8 : Nat) : Int); omega) ?_
  obtain ⟨g2, t2⟩ := setA_s (j := s.toNatClampNeg) (x := p3) g1 (show HMs[132]? = some (.inl (0, 8, -2147483648, 2147483647, false)) from rfl) (i32_ge _) (i32_le _)
  have w2 : fI (setA (setA (setA (h) 130 s.toNatClampNeg p1) 131 s.toNatClampNeg p2) 132 s.toNatClampNeg p3) 123 11 = s := (fI_cong (setA_ne (by decide))).trans w1
  refine RP.step rfl ?_
  refine RP.step rfl ?_
  refine RP.getI rfl g2 rfl (fun _ _ => ?_)
  show RP m_X7_event _ _ (Value.int (fI (setA (setA (setA (h) 130 s.toNatClampNeg p1) 131 s.toNatClampNeg p2) 132 s.toNatClampNeg p3) 123 11) :: _) _ _
  rw [w2]
  refine RP.step rfl ?_
  refine RP.step rfl ?_
  refine RP.putI (x := s + 1) rfl g2 hf rfl ?_
  obtain ⟨g9, t9⟩ := setF_s (x := s + 1) g2 hf (by omega) (by omega)
  refine RP.step rfl ?_
  refine RP.getI rfl g9 rfl (fun e1 e2 => ?_)
  exact RP.ret rfl ⟨(setF_ne (by decide)).trans ((setA_ne (by decide)).trans ((setA_ne (by decide)).trans (setA_ne (by decide)))), (setF_ne (by decide)).trans ((setA_ne (by decide)).trans ((setA_ne (by decide)).trans (setA_ne (by decide)))), (setF_ne (by decide)).trans ((setA_ne (by decide)).trans ((setA_ne (by decide)).trans (setA_ne (by decide))))⟩
theorem ys_seen (p1 p2 : Int32) (h : MH) (gh : gH HMs h) : RP m_X7_seen 0 (m_ent 3 [.ref 123, .int p1, .int p2]) [] h (fun _ h1 => smY h h1) := by
  have bad : RP m_X7_seen 8 (m_ent 3 [.ref 123, .int p1, .int p2]) [] h (fun _ h1 => smY h h1) := by
    refine RP.step rfl ?_
    exact RP.ret rfl (smY.rf _)
  have hf : a_fd HMs 7 37 123 = some (.inr (0, 8, false)) := rfl
  obtain ⟨-, -, -, f1, f2⟩ := fI_sp gh hf
  have z8 : (8 : Int32).toInt = 8 := by decide
  have s1 : (1 : Int32).toInt = 1 := by decide
  refine RP.step rfl ?_
  refine c_isMinute (v := p1) rfl (fun a1 a2 => ?_) (fun q => RP.step rfl bad)
  refine RP.step rfl ?_
  refine RP.step rfl ?_
  refine RP.step rfl ?_
  refine RP.step rfl ?_
  refine c_in (v := p2) (a := 0) (b := 20) rfl (fun b1 b2 => ?_) (fun q => RP.step rfl bad)
  refine RP.step rfl ?_
  refine RP.step rfl ?_
  refine RP.getI rfl gh rfl (fun _ _ => ?_)
  refine RP.step rfl ?_
  refine RP.icmp (x := fI h 123 37) (y := 8) rfl (fun d1 => ?_) (fun d1 => RP.step rfl (RP.ret rfl (smY.rf _)))
  have hn := m_ne_iff.mp d1
  generalize hs : fI h 123 37 = s at *
  have l8 : ¬ s.toInt = 8 := fun q => hn (Int32.toInt_inj.mp (q.trans z8.symm))
  have ls : (s + 1).toInt = s.toInt + 1 := (i32_add (by omega) (by omega)).trans (by omega)
  refine RP.step rfl ?_
  refine RP.getR rfl gh rfl ?_
  refine RP.step rfl ?_
  refine RP.getI rfl gh rfl (fun _ _ => ?_)
  show RP m_X7_seen _ _ (Value.int (fI (h) 123 37) :: _) _ _
  rw [hs]
  refine RP.step rfl ?_
  refine RP.ast (j := s) (x := p1) rfl gh rfl f1 (by show _ < ((8 : Nat) : Int); omega) ?_
  obtain ⟨g0, t0⟩ := setA_s (j := s.toNatClampNeg) (x := p1) gh (show HMs[145]? = some (.inl (0, 8, 0, 23, false)) from rfl) (by omega) (by omega)
  have w0 : fI (setA (h) 145 s.toNatClampNeg p1) 123 37 = s := (fI_cong (setA_ne (by decide))).trans hs
  refine RP.step rfl ?_
  refine RP.getR rfl g0 rfl ?_
  refine RP.step rfl ?_
  refine RP.getI rfl g0 rfl (fun _ _ => ?_)
  show RP m_X7_seen _ _ (Value.int (fI (setA (h) 145 s.toNatClampNeg p1) 123 37) :: _) _ _
  rw [w0]
  refine RP.step rfl ?_
  refine RP.ast (j := s) (x := p2) rfl g0 rfl f1 (by show _ < ((8 : Nat) : Int); omega) ?_
  obtain ⟨g1, t1⟩ := setA_s (j := s.toNatClampNeg) (x := p2) g0 (show HMs[146]? = some (.inl (0, 8, -2147483648, 2147483647, false)) from rfl) (i32_ge _) (i32_le _)
  have w1 : fI (setA (setA (h) 145 s.toNatClampNeg p1) 146 s.toNatClampNeg p2) 123 37 = s := (fI_cong (setA_ne (by decide))).trans w0
  refine RP.step rfl ?_
  refine RP.step rfl ?_
  refine RP.getI rfl g1 rfl (fun _ _ => ?_)
  show RP m_X7_seen _ _ (Value.int (fI (setA (setA (h) 145 s.toNatClampNeg p1) 146 s.toNatClampNeg p2) 123 37) :: _) _ _
  rw [w1]
  refine RP.step rfl ?_
  refine RP.step rfl ?_
  refine RP.putI (x := s + 1) rfl g1 hf rfl ?_
  obtain ⟨g9, t9⟩ := setF_s (x := s + 1) g1 hf (by omega) (by omega)
  refine RP.step rfl ?_
  refine RP.getI rfl g9 rfl (fun e1 e2 => ?_)
  exact RP.ret rfl ⟨(setF_ne (by decide)).trans ((setA_ne (by decide)).trans (setA_ne (by decide))), (setF_ne (by decide)).trans ((setA_ne (by decide)).trans (setA_ne (by decide))), (setF_ne (by decide)).trans ((setA_ne (by decide)).trans (setA_ne (by decide)))⟩
theorem ys_back (h : MH) (gh : gH HMs h) : RP m_X7_back 0 (m_ent 1 [.ref 123]) [] h (fun _ h1 => smY h h1) := by
  have hf : a_fd HMs 7 11 123 = some (.inr (0, 8, false)) := rfl
  obtain ⟨-, -, -, f1, f2⟩ := fI_sp gh hf
  refine RP.step rfl ?_
  refine RP.getI rfl gh rfl (fun _ _ => ?_)
  refine RP.ifc (x := fI h 123 11) rfl (fun c1 => ?_) (fun c1 => RP.step rfl (RP.ret rfl (smY.rf _)))
  have hn0 : ¬ fI h 123 11 = 0 := m_ne0.mp c1
  have l3 : ¬ (fI h 123 11).toInt = 0 := fun q => hn0 (Int32.toInt_inj.mp (q.trans (by decide)))
  have s1 : (1 : Int32).toInt = 1 := by decide
  have ls : (fI h 123 11 - 1).toInt = (fI h 123 11).toInt - 1 := (i32_sub (by omega) (by omega)).trans (by omega)
  refine RP.step rfl ?_
  refine RP.step rfl ?_
  refine RP.getI rfl gh rfl (fun _ _ => ?_)
  refine RP.step rfl ?_
  refine RP.step rfl ?_
  refine RP.putI (x := fI h 123 11 - 1) rfl gh hf rfl ?_
  obtain ⟨g1, t1⟩ := setF_s (x := fI h 123 11 - 1) gh hf (by omega) (by omega)
  refine RP.step rfl ?_
  refine RP.getI rfl g1 rfl (fun e1 e2 => ?_)
  exact RP.ret rfl smY_F
theorem ys_river (what v : Int32) (h : MH) (gh : gH HMs h) : RP m_X7_river 0 (m_ent 4 [.ref 123, .int what, .int v]) [] h (fun _ h1 => smY h h1) := by
  have z0 : (0 : Int32).toInt = 0 := by decide
  have z1 : (1 : Int32).toInt = 1 := by decide
  have z9 : (9 : Int32).toInt = 9 := by decide
  have z50 : (50 : Int32).toInt = 50 := by decide
  have z999 : (999 : Int32).toInt = 999 := by decide
  have hf9 : a_fd HMs 7 9 123 = some (.inr (-2147483648, 2147483647, false)) := rfl
  have hf10 : a_fd HMs 7 10 123 = some (.inr (-2147483648, 2147483647, false)) := rfl
  have bad : ¬ (what = 0 ∧ (0 ≤ v.toInt ∧ v.toInt ≤ 9)) → ¬ (what = 1 ∧ (50 ≤ v.toInt ∧ v.toInt ≤ 999)) → RP m_X7_river 18 (m_ent 4 [.ref 123, .int what, .int v]) [] h (fun _ h1 => smY h h1) := by
    intro q1 q2
    refine RP.step rfl ?_
    exact RP.ret rfl (smY.rf _)
  refine RP.step rfl ?_
  refine c_isTwo (v := what) rfl (fun a1 a2 => ?_) (fun q => ?_)
  · have hw : what = 0 ∨ what = 1 := by
      have : what.toInt = 0 ∨ what.toInt = 1 := by omega
      rcases this with e | e
      · exact Or.inl (Int32.toInt_inj.mp e)
      · exact Or.inr (Int32.toInt_inj.mp e)
    rcases hw with rfl | rfl
    · refine RP.step rfl ?_
      refine RP.step rfl ?_
      refine RP.step rfl ?_
      refine RP.step rfl ?_
      refine RP.step rfl ?_
      refine RP.step rfl ?_
      refine c_in (v := v) (a := 0) (b := 9) rfl (fun b1 b2 => ?_) (fun q => RP.step rfl (bad (fun w => q ⟨by omega, by omega⟩) (fun w => absurd w.1 (by decide))))
      refine RP.step rfl ?_
      refine RP.step rfl ?_
      refine RP.step rfl ?_
      refine RP.step rfl ?_
      refine RP.step rfl ?_
      refine RP.step rfl ?_
      refine RP.step rfl ?_
      refine RP.getI rfl gh hf9 (fun _ _ => ?_)
      refine RP.step rfl ?_
      refine RP.step (L1 := [some (.ref 123), some (.int 0), some (.int v), some (.int (fI h 123 9))]) rfl ?_
      refine RP.step rfl ?_
      refine RP.step rfl ?_
      refine RP.step rfl ?_
      refine RP.step rfl ?_
      refine RP.step rfl ?_
      refine RP.putI (x := v) rfl gh hf9 rfl ?_
      obtain ⟨g1, f1⟩ := setF_s (x := v) gh hf9 (i32_ge _) (i32_le _)
      refine RP.step rfl ?_
      refine RP.step rfl ?_
      refine RP.step rfl ?_
      refine RP.step rfl ?_
      refine RP.step rfl ?_
      refine RP.getI rfl g1 hf10 (fun _ _ => ?_)
      refine RP.putI rfl g1 hf10 rfl ?_
      obtain ⟨g2, f2⟩ := setF_s (x := fI (setF h 123 9 v) 123 10) g1 hf10 (i32_ge _) (i32_le _)
      refine RP.step rfl ?_
      exact RP.ret rfl (smY.tr smY_F smY_F)
    · refine RP.step rfl ?_
      refine RP.step rfl ?_
      refine RP.step rfl ?_
      refine RP.step rfl ?_
      refine RP.step rfl ?_
      refine RP.step rfl ?_
      refine RP.step rfl ?_
      refine RP.step rfl ?_
      refine RP.step rfl ?_
      refine c_in (v := v) (a := 50) (b := 999) rfl (fun b1 b2 => ?_) (fun q => RP.step rfl (bad (fun w => absurd w.1 (by decide)) (fun w => q ⟨by omega, by omega⟩)))
      refine RP.step rfl ?_
      refine RP.step rfl ?_
      refine RP.step rfl ?_
      refine RP.step rfl ?_
      refine RP.getI rfl gh hf10 (fun _ _ => ?_)
      refine RP.step (L1 := [some (.ref 123), some (.int 1), some (.int v), some (.int (fI h 123 10))]) rfl ?_
      refine RP.step rfl ?_
      refine RP.step rfl ?_
      refine RP.step rfl ?_
      refine RP.step rfl ?_
      refine RP.getI rfl gh hf9 (fun _ _ => ?_)
      refine RP.putI rfl gh hf9 rfl ?_
      obtain ⟨g1, f1⟩ := setF_s (x := fI h 123 9) gh hf9 (i32_ge _) (i32_le _)
      refine RP.step rfl ?_
      refine RP.step rfl ?_
      refine RP.step rfl ?_
      refine RP.step rfl ?_
      refine RP.step rfl ?_
      refine RP.step rfl ?_
      refine RP.putI (x := v) rfl g1 hf10 rfl ?_
      obtain ⟨g2, f2⟩ := setF_s (x := v) g1 hf10 (i32_ge _) (i32_le _)
      refine RP.step rfl ?_
      exact RP.ret rfl (smY.tr smY_F smY_F)
  · refine RP.step rfl ?_
    refine bad (fun w => ?_) (fun w => ?_)
    · obtain ⟨rfl, -⟩ := w
      exact q ⟨by decide, by decide⟩
    · obtain ⟨rfl, -⟩ := w
      exact q ⟨by decide, by decide⟩
theorem ys_forget (h : MH) (gh : gH HMs h) : RP m_X7_forget 0 (m_ent 2 [.ref 123]) [] h (fun _ h1 => smY h h1) := (y_forgetE h gh).mono (fun r h1 q => by rw [q.2.2.2]; exact smY_F)
theorem ys_read_l (s b : Int32) (b1 : 0 ≤ b.toInt) (b2 : b.toInt ≤ 180) (hs1 : 0 ≤ s.toInt) (hs2 : s.toInt ≤ 3) : ∀ (N : Nat) (n : Int32) (h : MH), gH HMs h → 0 ≤ n.toInt → n.toInt ≤ 20 → 20 - n.toInt < N → RP m_X7_read 20 [some (.ref 123), some (.int s), some (.int n), some (.int b)] [] h (fun r h1 => KP HMs (-2147483648) 2147483647 h r h1 ∧ smY h h1) := by
  have z1 : (1 : Int32).toInt = 1 := by decide
  have z2 : (2 : Int32).toInt = 2 := by decide
  have z3 : (3 : Int32).toInt = 3 := by decide
  intro N
  induction N with
  | zero => intro n h _ _ _ q; exact absurd q (by omega)
  | succ N ih =>
    intro n h gh i1 i2 hN
    have e3 : (3 * n).toInt = 3 * n.toInt := i32_mulc z3 (by omega) (by omega)
    have e2 : (3 * n + 2).toInt = 3 * n.toInt + 2 := (i32_add (by omega) (by omega)).trans (by omega)
    refine RP.step rfl ?_
    refine RP.step rfl ?_
    refine RP.step rfl ?_
    refine RP.step rfl ?_
    refine RP.step rfl ?_
    refine RP.step rfl ?_
    refine RP.getR rfl gh rfl ?_
    refine RP.step rfl ?_
    refine RP.ald (t := 0) (j := s) rfl (Or.inl rfl) gh (show HMs[150]? = some (.inl (0, 4, 0, 60, false)) from rfl) hs1 (by show _ < ((4 : Nat) : Int); omega) (fun f1 f2 => ?_)
    refine RP.icmp (x := 3 * n + 2) (y := aI h 150 s.toNatClampNeg) rfl (fun c => RP.step rfl (RP.ret rfl ⟨KP.any gh (fH.rf _ _) n, smY.rf _⟩)) (fun c => ?_)
    have c1 := m_ff m_ge_iff c
    have c2 : 3 * n.toInt + 2 < 60 := by
      have f2 : (aI h 150 s.toNatClampNeg).toInt ≤ 60 := f2
      omega
    have e4 : (b + 3 * n).toInt = b.toInt + 3 * n.toInt := (i32_add (by omega) (by omega)).trans (by omega)
    have e5 : (b + 3 * n + 1).toInt = b.toInt + 3 * n.toInt + 1 := (i32_add (by omega) (by omega)).trans (by omega)
    have e6 : (b + 3 * n + 2).toInt = b.toInt + 3 * n.toInt + 2 := (i32_add (by omega) (by omega)).trans (by omega)
    have s4 : HMs[151]? = some (.inl (0, 240, -2147483648, 2147483647, false)) := rfl
    refine RP.step rfl ?_
    refine RP.step rfl ?_
    refine RP.getR rfl gh rfl ?_
    refine RP.step rfl ?_
    refine RP.step rfl ?_
    refine RP.step rfl ?_
    refine RP.step rfl ?_
    refine RP.step rfl ?_
    refine RP.ald (t := 0) (j := b + 3 * n) rfl (Or.inl rfl) gh s4 (by omega) (by show _ < ((240 : Nat) : Int); omega) (fun _ _ => ?_)
    refine RP.step rfl ?_
    refine RP.getR rfl gh rfl ?_
    refine RP.step rfl ?_
    refine RP.step rfl ?_
    refine RP.step rfl ?_
    refine RP.step rfl ?_
    refine RP.step rfl ?_
    refine RP.step rfl ?_
    refine RP.step rfl ?_
    refine RP.ald (t := 0) (j := b + 3 * n + 1) rfl (Or.inl rfl) gh s4 (by omega) (by show _ < ((240 : Nat) : Int); omega) (fun _ _ => ?_)
    refine RP.step rfl ?_
    refine RP.getR rfl gh rfl ?_
    refine RP.step rfl ?_
    refine RP.step rfl ?_
    refine RP.step rfl ?_
    refine RP.step rfl ?_
    refine RP.step rfl ?_
    refine RP.step rfl ?_
    refine RP.step rfl ?_
    refine RP.ald (t := 0) (j := b + 3 * n + 2) rfl (Or.inl rfl) gh s4 (by omega) (by show _ < ((240 : Nat) : Int); omega) (fun _ _ => ?_)
    obtain ⟨vs, hx⟩ := ob_sp (a := 123) (ci := 7) gh rfl
    refine RP.call (M1 := m_X7_event) (cv_step rfl rfl hx rfl rfl) rfl rfl (RP.and (y_event _ _ _ h gh) (ys_event _ _ _ h gh)) (fun r h1 k => ?_)
    obtain ⟨⟨g1, t1, v, rfl, v1, v2⟩, sm1⟩ := k
    refine RP.ifc (x := v) rfl (fun c => RP.step rfl (RP.ret rfl ⟨KP.any g1 t1 n, sm1⟩)) (fun c => ?_)
    have e7 : (n + 1).toInt = n.toInt + 1 := (i32_add (by omega) (by omega)).trans (by omega)
    refine RP.step (L1 := [some (.ref 123), some (.int s), some (.int (n + 1)), some (.int b)]) rfl ?_
    refine RP.step rfl ?_
    exact (ih (n + 1) h1 g1 (by omega) (by omega) (by omega)).mono (fun r h2 k => ⟨KP.tr g1 t1 k.1, sm1.tr k.2⟩)
theorem ys_read (s : Int32) (h : MH) (gh : gH HMs h) : RP m_X7_read 0 (m_ent 4 [.ref 123, .int s]) [] h (fun r h1 => KP HMs (-2147483648) 2147483647 h r h1 ∧ smY h h1) := by
  have z6 : (60 : Int32).toInt = 60 := by decide
  refine RP.step rfl ?_
  refine c_isSheet (v := s) rfl (fun a1 a2 => ?_) (fun q => RP.step rfl (RP.step rfl (RP.ret rfl ⟨KP.any gh (fH.rf _ _) (-2), smY.rf _⟩)))
  have e6 : (60 * s).toInt = 60 * s.toInt := i32_mulc z6 (by omega) (by omega)
  refine RP.step rfl ?_
  refine RP.step rfl ?_
  refine RP.getR rfl gh rfl ?_
  refine RP.step rfl ?_
  refine RP.ald (t := 1) (j := s) rfl (Or.inr rfl) gh (show HMs[148]? = some (.inl (1, 4, 0, 1, false)) from rfl) a1 (by show _ < ((4 : Nat) : Int); omega) (fun f1 f2 => ?_)
  refine RP.ifc rfl (fun c => ?_) (fun c => ?_)
  · refine RP.step rfl ?_
    refine RP.step (L1 := [some (.ref 123), some (.int s), some (.int 0), none]) rfl ?_
    refine RP.step rfl ?_
    refine RP.step rfl ?_
    refine RP.step rfl ?_
    refine RP.step (L1 := [some (.ref 123), some (.int s), some (.int 0), some (.int (60 * s))]) rfl ?_
    exact ys_read_l s (60 * s) (by omega) (by omega) a1 a2 21 0 h gh (by decide) (by decide) (by decide)
  · refine RP.step rfl ?_
    refine RP.step rfl ?_
    refine c_meets (v := 1) rfl rfl rfl rfl rfl gh (fun g1 t1 => ?_)
    exact RP.ret rfl ⟨KP.any g1 t1 _, smY_F⟩
theorem ys_get (s f i : Int32) (h : MH) (gh : gH HMs h) : RP m_X7_get 0 (m_ent 5 [.ref 123, .int s, .int f, .int i]) [] h (fun _ h1 => smY h h1) := by
  have z0 : (0 : Int32).toInt = 0 := by decide
  have z1 : (1 : Int32).toInt = 1 := by decide
  have z2 : (2 : Int32).toInt = 2 := by decide
  have z3 : (3 : Int32).toInt = 3 := by decide
  have z4 : (4 : Int32).toInt = 4 := by decide
  have z60 : (60 : Int32).toInt = 60 := by decide
  have s148 : HMs[148]? = some (.inl (1, 4, 0, 1, false)) := rfl
  have s149 : HMs[149]? = some (.inl (0, 4, -2147483648, 2147483647, false)) := rfl
  have s150 : HMs[150]? = some (.inl (0, 4, 0, 60, false)) := rfl
  have s151 : HMs[151]? = some (.inl (0, 240, -2147483648, 2147483647, false)) := rfl
  refine RP.step (i1 := 1) (L1 := [some (.ref 123), some (.int s), some (.int f), some (.int i), none]) (st1 := [.int s]) (h1 := h) rfl ?_
  refine c_isSheet (v := s) rfl (fun c1a c1b => ?_) (fun c1 => ?_)
  · skip
    have hok : okS s := ⟨c1a, c1b⟩
    have hn := nat_cl c1a
    refine RP.step (i1 := 3) (L1 := [some (.ref 123), some (.int s), some (.int f), some (.int i), none]) (st1 := []) (h1 := h) rfl ?_
    refine RP.step (i1 := 4) (L1 := [some (.ref 123), some (.int s), some (.int f), some (.int i), none]) (st1 := [.int f]) (h1 := h) rfl ?_
    refine RP.step (i1 := 5) (L1 := [some (.ref 123), some (.int s), some (.int f), some (.int i), none]) (st1 := [.int 0, .int f]) (h1 := h) rfl ?_
    refine RP.step (i1 := 6) (L1 := [some (.ref 123), some (.int s), some (.int f), some (.int i), none]) (st1 := [.int 2, .int 0, .int f]) (h1 := h) rfl ?_
    refine c_in (v := f) (a := 0) (b := 2) rfl (fun c3a c3b => ?_) (fun c3 => ?_)
    · skip
      have hokF : okF f := ⟨by omega, by omega⟩
      refine RP.step (i1 := 10) (L1 := [some (.ref 123), some (.int s), some (.int f), some (.int i), none]) (st1 := []) (h1 := h) rfl ?_
      refine RP.step (i1 := 11) (L1 := [some (.ref 123), some (.int s), some (.int f), some (.int i), none]) (st1 := [.ref 123]) (h1 := h) rfl ?_
      refine RP.step (i1 := 12) (L1 := [some (.ref 123), some (.int s), some (.int f), some (.int i), none]) (st1 := [.int s, .ref 123]) (h1 := h) rfl ?_
      refine RP.step (i1 := 13) (L1 := [some (.ref 123), some (.int s), some (.int f), some (.int i), none]) (st1 := [.int f, .int s, .ref 123]) (h1 := h) rfl ?_
      refine RP.step (i1 := 14) (L1 := [some (.ref 123), some (.int s), some (.int f), some (.int i), none]) (st1 := [.int i, .int f, .int s, .ref 123]) (h1 := h) rfl ?_
      obtain ⟨vs, hx⟩ := ob_sp (a := 123) (ci := 7) gh rfl
      refine RP.call (M1 := m_X7_lacks) (cv_step rfl rfl hx rfl rfl) rfl rfl (y_lacks s f i c1a c1b h gh) (fun r h5 w => ?_)
      obtain ⟨e0, rfl⟩ := w
      rw [e0]
      refine RP.step (i1 := 16) (L1 := [some (.ref 123), some (.int s), some (.int f), some (.int i), some (.int (lkA (aI h 148 s.toNatClampNeg) (aI h 149 s.toNatClampNeg) (aI h 150 s.toNatClampNeg) f i))]) (st1 := []) (h1 := h) rfl ?_
      refine RP.step (i1 := 17) (L1 := [some (.ref 123), some (.int s), some (.int f), some (.int i), some (.int (lkA (aI h 148 s.toNatClampNeg) (aI h 149 s.toNatClampNeg) (aI h 150 s.toNatClampNeg) f i))]) (st1 := [.int (lkA (aI h 148 s.toNatClampNeg) (aI h 149 s.toNatClampNeg) (aI h 150 s.toNatClampNeg) f i)]) (h1 := h) rfl ?_
      refine RP.ifc (x := lkA (aI h 148 s.toNatClampNeg) (aI h 149 s.toNatClampNeg) (aI h 150 s.toNatClampNeg) f i) rfl (fun c5 => ?_) (fun c5 => ?_)
      · skip
        have c5 := m_le_iff.mp c5
        refine RP.step (i1 := 24) (L1 := [some (.ref 123), some (.int s), some (.int f), some (.int i), some (.int (lkA (aI h 148 s.toNatClampNeg) (aI h 149 s.toNatClampNeg) (aI h 150 s.toNatClampNeg) f i))]) (st1 := [.ref 123]) (h1 := h) rfl ?_
        refine RP.getR (i := 24) rfl gh rfl ?_
        refine RP.step (i1 := 26) (L1 := [some (.ref 123), some (.int s), some (.int f), some (.int i), some (.int (lkA (aI h 148 s.toNatClampNeg) (aI h 149 s.toNatClampNeg) (aI h 150 s.toNatClampNeg) f i))]) (st1 := [.int 60, .ref 151]) (h1 := h) rfl ?_
        refine RP.step (i1 := 27) (L1 := [some (.ref 123), some (.int s), some (.int f), some (.int i), some (.int (lkA (aI h 148 s.toNatClampNeg) (aI h 149 s.toNatClampNeg) (aI h 150 s.toNatClampNeg) f i))]) (st1 := [.int s, .int 60, .ref 151]) (h1 := h) rfl ?_
        refine RP.step (i1 := 28) (L1 := [some (.ref 123), some (.int s), some (.int f), some (.int i), some (.int (lkA (aI h 148 s.toNatClampNeg) (aI h 149 s.toNatClampNeg) (aI h 150 s.toNatClampNeg) f i))]) (st1 := [.int (60 * s), .ref 151]) (h1 := h) rfl ?_
        refine RP.step (i1 := 29) (L1 := [some (.ref 123), some (.int s), some (.int f), some (.int i), some (.int (lkA (aI h 148 s.toNatClampNeg) (aI h 149 s.toNatClampNeg) (aI h 150 s.toNatClampNeg) f i))]) (st1 := [.int i, .int (60 * s), .ref 151]) (h1 := h) rfl ?_
        refine RP.step (i1 := 30) (L1 := [some (.ref 123), some (.int s), some (.int f), some (.int i), some (.int (lkA (aI h 148 s.toNatClampNeg) (aI h 149 s.toNatClampNeg) (aI h 150 s.toNatClampNeg) f i))]) (st1 := [.int ((60 * s) + i), .ref 151]) (h1 := h) rfl ?_
        have hz : lkA (aI h 148 s.toNatClampNeg) (aI h 149 s.toNatClampNeg) (aI h 150 s.toNatClampNeg) f i = 0 := by
          rcases fdA_cases (if aI h 148 s.toNatClampNeg = 0 then 1 else 0) (aI h 149 s.toNatClampNeg) (aI h 150 s.toNatClampNeg) f i with e | e | e | e
          · exact e
          · have e3 : (lkA (aI h 148 s.toNatClampNeg) (aI h 149 s.toNatClampNeg) (aI h 150 s.toNatClampNeg) f i).toInt = 1 := (congrArg Int32.toInt e).trans z1
            omega
          · have e3 : (lkA (aI h 148 s.toNatClampNeg) (aI h 149 s.toNatClampNeg) (aI h 150 s.toNatClampNeg) f i).toInt = 2 := (congrArg Int32.toInt e).trans z2
            omega
          · have e3 : (lkA (aI h 148 s.toNatClampNeg) (aI h 149 s.toNatClampNeg) (aI h 150 s.toNatClampNeg) f i).toInt = 3 := (congrArg Int32.toInt e).trans z3
            omega
        obtain ⟨-, -, -, -, zz1, zz2⟩ := aI_sp gh s150 (show s.toNatClampNeg < 4 by omega)
        obtain ⟨-, -, i1, i2⟩ := fdA_0 hz
        have e1 : (60 * s).toInt = 60 * s.toInt := i32_mulc z60 (by omega) (by omega)
        have e2 : (60 * s + i).toInt = 60 * s.toInt + i.toInt := (i32_add (by omega) (by omega)).trans (by omega)
        refine RP.ald (i := 30) (t := 0) (j := 60 * s + i) rfl (Or.inl rfl) gh s151 (by omega) (by show _ < ((240 : Nat) : Int); omega) (fun _ _ => ?_)
        exact RP.ret rfl (smY.rf _)
      · skip
        have c5 := m_ff m_le_iff c5
        refine RP.step (i1 := 19) (L1 := [some (.ref 123), some (.int s), some (.int f), some (.int i), some (.int (lkA (aI h 148 s.toNatClampNeg) (aI h 149 s.toNatClampNeg) (aI h 150 s.toNatClampNeg) f i))]) (st1 := [.ref 123]) (h1 := h) rfl ?_
        refine RP.step (i1 := 20) (L1 := [some (.ref 123), some (.int s), some (.int f), some (.int i), some (.int (lkA (aI h 148 s.toNatClampNeg) (aI h 149 s.toNatClampNeg) (aI h 150 s.toNatClampNeg) f i))]) (st1 := [.int (lkA (aI h 148 s.toNatClampNeg) (aI h 149 s.toNatClampNeg) (aI h 150 s.toNatClampNeg) f i), .ref 123]) (h1 := h) rfl ?_
        refine RP.putI (i := 20) (x := lkA (aI h 148 s.toNatClampNeg) (aI h 149 s.toNatClampNeg) (aI h 150 s.toNatClampNeg) f i) rfl gh rfl rfl ?_
        refine RP.step (i1 := 22) (L1 := [some (.ref 123), some (.int s), some (.int f), some (.int i), some (.int (lkA (aI h 148 s.toNatClampNeg) (aI h 149 s.toNatClampNeg) (aI h 150 s.toNatClampNeg) f i))]) (st1 := [.int (-2147483648)]) (h1 := (setF h 123 46 (lkA (aI h 148 s.toNatClampNeg) (aI h 149 s.toNatClampNeg) (aI h 150 s.toNatClampNeg) f i))) rfl ?_
        exact RP.ret rfl smY_F
    · skip
      refine RP.step (i1 := 8) (L1 := [some (.ref 123), some (.int s), some (.int f), some (.int i), none]) (st1 := []) (h1 := h) rfl ?_
      refine RP.step (i1 := 9) (L1 := [some (.ref 123), some (.int s), some (.int f), some (.int i), none]) (st1 := [.int (-2147483648)]) (h1 := h) rfl ?_
      exact RP.ret rfl (smY.rf _)
  · skip
    refine RP.step (i1 := 8) (L1 := [some (.ref 123), some (.int s), some (.int f), some (.int i), none]) (st1 := []) (h1 := h) rfl ?_
    refine RP.step (i1 := 9) (L1 := [some (.ref 123), some (.int s), some (.int f), some (.int i), none]) (st1 := [.int (-2147483648)]) (h1 := h) rfl ?_
    exact RP.ret rfl (smY.rf _)
def sameB (h h1 : MH) : Prop := ∀ a, ¬ a = 124 ∧ ¬ a = 125 → h1[a]? = h[a]?
theorem sameB.rf (h : MH) : sameB h h := fun _ _ => rfl
theorem sameB.sm {h h1 : MH} (s : sameB h h1) : smY h h1 := ⟨s _ (by decide), s _ (by decide), s _ (by decide)⟩
def TnB (h : MH) (r : Option Value) (h1 : MH) (v : Int32) (f : Nat → Int32) : Prop := gH HM h1 ∧ sameB h h1 ∧ r = some (.int v) ∧ ∀ j, j < 3 → typ h1 j = f j
theorem yb_wipe (t : Int32) (h : MH) (gh : gH HM h) (h1 : 0 ≤ t.toInt) (h2 : t.toInt ≤ 2) : RP m_X7_wipe 0 (m_ent 3 [.ref 123, .int t]) [] h (fun r h1 => TnB h r h1 (typ h t.toNatClampNeg) (fun k => if k = t.toNatClampNeg then 0 else typ h k)) := by
  have zn := z_nat h1
  have hfa : HM[124]? = some (.inl (0, 3, 0, 24, true)) := rfl
  refine RP.step rfl ?_
  refine c_isText (v := t) rfl (fun q1 q2 => ?_) (fun q => absurd ⟨h1, h2⟩ q)
  refine RP.step rfl ?_
  refine RP.step rfl ?_
  refine RP.getR rfl gh rfl ?_
  refine RP.step rfl ?_
  refine RP.ald (t := 0) rfl (Or.inl rfl) gh hfa h1 (by show _ < ((3 : Nat) : Int); omega) (fun r1 r2 => ?_)
  refine RP.step rfl ?_
  refine RP.step rfl ?_
  refine RP.getR rfl gh rfl ?_
  refine RP.step rfl ?_
  refine RP.step rfl ?_
  refine RP.ast (j := t) (x := 0) rfl gh hfa h1 (by show _ < ((3 : Nat) : Int); omega) ?_
  obtain ⟨ga, e1, e2⟩ := setA_sp (j := t.toNatClampNeg) (x := 0) gh hfa (by omega) (by decide) (by decide)
  refine RP.step rfl ?_
  refine RP.ret rfl ⟨ga, fun a ha => setA_ne (by omega), rfl, fun k hk => ?_⟩
  dsimp only
  by_cases e : k = t.toNatClampNeg
  · rw [if_pos e, e]; exact e1
  · rw [if_neg e]; exact e2 k e
theorem yb_undo (t : Int32) (h : MH) (gh : gH HM h) (h1 : 0 ≤ t.toInt) (h2 : t.toInt ≤ 2) : RP m_X7_undo 0 (m_ent 2 [.ref 123, .int t]) [] h (fun r h1 => (typ h t.toNatClampNeg = 0 ∧ TnB h r h1 (-3) (typ h)) ∨ (¬ typ h t.toNatClampNeg = 0 ∧ TnB h r h1 (typ h t.toNatClampNeg - 1) (fun k => if k = t.toNatClampNeg then typ h t.toNatClampNeg - 1 else typ h k))) := by
  have zn := z_nat h1
  have hfa : HM[124]? = some (.inl (0, 3, 0, 24, true)) := rfl
  have h3 : t.toInt < ((3 : Nat) : Int) := by omega
  refine RP.step rfl ?_
  refine c_isText (v := t) rfl (fun q1 q2 => ?_) (fun q => absurd ⟨h1, h2⟩ q)
  refine RP.step rfl ?_
  refine RP.step rfl ?_
  refine RP.getR rfl gh rfl ?_
  refine RP.step rfl ?_
  refine RP.ald (t := 0) rfl (Or.inl rfl) gh hfa h1 h3 (fun r1 r2 => ?_)
  refine RP.ifc rfl (fun c1 => ?_) (fun c1 => ?_)
  · have hn0 : ¬ typ h t.toNatClampNeg = 0 := m_ne0.mp c1
    have l1 : (0 : Int) ≤ (typ h t.toNatClampNeg).toInt := r1
    have l2 : (typ h t.toNatClampNeg).toInt ≤ 24 := r2
    have l3 : ¬ (typ h t.toNatClampNeg).toInt = 0 := fun q => hn0 (Int32.toInt_inj.mp (q.trans (by decide)))
    have s1 : (1 : Int32).toInt = 1 := by decide
    have ls : (typ h t.toNatClampNeg - 1).toInt = (typ h t.toNatClampNeg).toInt - 1 := (i32_sub (by omega) (by omega)).trans (by omega)
    refine RP.step rfl ?_
    refine RP.getR rfl gh rfl ?_
    refine RP.step rfl ?_
    refine RP.step rfl ?_
    refine RP.ald (t := 0) rfl (Or.inl rfl) gh hfa h1 h3 (fun r3 r4 => ?_)
    refine RP.step rfl ?_
    refine RP.step rfl ?_
    refine RP.ast (j := t) (x := typ h t.toNatClampNeg - 1) rfl gh hfa h1 h3 ?_
    obtain ⟨ga, e1, e2⟩ := setA_sp (j := t.toNatClampNeg) (x := typ h t.toNatClampNeg - 1) gh hfa (by omega) (by omega) (by omega)
    refine RP.step rfl ?_
    refine RP.getR rfl ga rfl ?_
    refine RP.step rfl ?_
    refine RP.ald (t := 0) rfl (Or.inl rfl) ga hfa h1 h3 (fun r5 r6 => ?_)
    refine RP.ret rfl (Or.inr ⟨hn0, ga, fun a ha => setA_ne (by omega), congrArg (fun z => some (Value.int z)) e1, fun k hk => ?_⟩)
    dsimp only
    by_cases e : k = t.toNatClampNeg
    · rw [if_pos e, e]; exact e1
    · rw [if_neg e]; exact e2 k e
  · have h0 : typ h t.toNatClampNeg = 0 := Classical.not_not.mp (m_ff m_ne0 c1)
    refine RP.step rfl ?_
    exact RP.ret rfl (Or.inl ⟨h0, gh, sameB.rf h, rfl, fun k hk => rfl⟩)
theorem yb_type_0 (b : Int32) (h : MH) (gh : gH HM h) (hb1 : 0 ≤ b.toInt) (hb2 : b.toInt ≤ 255) (hroom : (typ h 0).toInt ≤ 23) : RP m_X7_type 0 (m_ent 3 [.ref 123, .int 0, .int b]) [] h (fun r h1 => (typ h 0 = 23 ∧ TnB h r h1 (-4) (typ h)) ∨ (¬ typ h 0 = 23 ∧ TnB h r h1 (typ h 0 + 1) (fun k => if k = 0 then typ h 0 + 1 else typ h k))) := by
  have z0 : (0 : Int32).toInt = 0 := by decide
  have z5 : (255 : Int32).toInt = 255 := by decide
  have zr : (23 : Int32).toInt = 23 := by decide
  have hfa : HM[124]? = some (.inl (0, 3, 0, 24, true)) := rfl
  have j1 : (0 : Int) ≤ (0 : Int32).toInt := by decide
  have j2 : (0 : Int32).toInt < ((3 : Nat) : Int) := by decide
  refine RP.step rfl ?_
  refine c_isText (v := 0) rfl (fun q1 q2 => ?_) (fun q => absurd ⟨by decide, by decide⟩ q)
  refine RP.step rfl ?_
  refine RP.step rfl ?_
  refine RP.step rfl ?_
  refine RP.step rfl ?_
  refine c_in (v := b) (a := 0) (b := 255) rfl (fun q3 q4 => ?_) (fun q => absurd ⟨by omega, by omega⟩ q)
  refine RP.step rfl ?_
  refine RP.step rfl ?_
  refine RP.getR rfl gh rfl ?_
  refine RP.step rfl ?_
  refine RP.ald (t := 0) rfl (Or.inl rfl) gh hfa j1 j2 (fun r1 r2 => ?_)
  have l1 : (0 : Int) ≤ (typ h 0).toInt := r1
  refine RP.step rfl ?_
  refine RP.step rfl ?_
  refine RP.step rfl ?_
  refine RP.step rfl ?_
  refine RP.icmp (x := typ h 0) (y := 23) rfl (fun c1 => ?_) (fun c1 => ?_)
  · have hne : ¬ typ h 0 = 23 := m_ne_iff.mp c1
    have hlt : (typ h 0).toInt < 23 := by
      have : ¬ (typ h 0).toInt = 23 := fun q => hne (Int32.toInt_inj.mp (q.trans zr.symm))
      omega
    have s1 : (1 : Int32).toInt = 1 := by decide
    have ls : (typ h 0 + 1).toInt = (typ h 0).toInt + 1 := (i32_add (by omega) (by omega)).trans (by omega)
    have hft : HM[125]? = some (.inl (0, 72, -2147483648, 2147483647, true)) := rfl
    have s24 : ((24 : Int32) * 0).toInt = 0 := by decide
    have li : ((24 : Int32) * 0 + typ h 0).toInt = 0 + (typ h 0).toInt := (i32_add (by omega) (by omega)).trans (by omega)
    refine RP.step rfl ?_
    refine RP.getR rfl gh rfl ?_
    refine RP.step rfl ?_
    refine RP.step rfl ?_
    refine RP.step rfl ?_
    refine RP.step rfl ?_
    refine RP.getR rfl gh rfl ?_
    refine RP.step rfl ?_
    refine RP.ald (t := 0) rfl (Or.inl rfl) gh hfa j1 j2 (fun r3 r4 => ?_)
    refine RP.step rfl ?_
    refine RP.step rfl ?_
    refine RP.ast (j := 24 * 0 + typ h 0) (x := b) rfl gh hft (by omega) (by show _ < ((72 : Nat) : Int); omega) ?_
    have zi := z_nat (j := 24 * 0 + typ h 0) (by omega)
    obtain ⟨ga, -, -⟩ := setA_sp (j := ((24 : Int32) * 0 + typ h 0).toNatClampNeg) (x := b) gh hft (by omega) (i32_ge b) (i32_le b)
    have et : ∀ k, aI (setA h 125 ((24 : Int32) * 0 + typ h 0).toNatClampNeg b) 124 k = typ h k := fun k => aI_cong (setA_ne (by decide))
    refine RP.step rfl ?_
    refine RP.getR rfl ga rfl ?_
    refine RP.step rfl ?_
    refine RP.step rfl ?_
    refine RP.ald (t := 0) rfl (Or.inl rfl) ga hfa j1 j2 (fun r5 r6 => ?_)
    refine RP.step rfl ?_
    refine RP.step rfl ?_
    show RP m_X7_type _ _ (Value.int (aI (setA h 125 ((24 : Int32) * 0 + typ h 0).toNatClampNeg b) 124 0 + 1) :: _) _ _
    rw [et]
    refine RP.ast (j := 0) (x := typ h 0 + 1) rfl ga hfa j1 j2 ?_
    obtain ⟨gb, e1, e2⟩ := setA_sp (j := 0) (x := typ h 0 + 1) ga hfa (by omega) (by omega) (by omega)
    refine RP.step rfl ?_
    refine RP.getR rfl gb rfl ?_
    refine RP.step rfl ?_
    refine RP.ald (t := 0) rfl (Or.inl rfl) gb hfa j1 j2 (fun r7 r8 => ?_)
    refine RP.ret rfl (Or.inr ⟨hne, gb, fun a ha => (setA_ne (by omega)).trans (setA_ne (by omega)), congrArg (fun z => some (Value.int z)) e1, fun k hk => ?_⟩)
    dsimp only
    by_cases e : k = 0
    · rw [if_pos e, e]; exact e1
    · rw [if_neg e]; exact (e2 k e).trans (et k)
  · have he : typ h 0 = 23 := Classical.not_not.mp (m_ff m_ne_iff c1)
    refine RP.step rfl ?_
    exact RP.ret rfl (Or.inl ⟨he, gh, sameB.rf h, rfl, fun k hk => rfl⟩)
theorem yb_type_1 (b : Int32) (h : MH) (gh : gH HM h) (hb1 : 0 ≤ b.toInt) (hb2 : b.toInt ≤ 255) (hroom : (typ h 1).toInt ≤ 24) : RP m_X7_type 0 (m_ent 3 [.ref 123, .int 1, .int b]) [] h (fun r h1 => (typ h 1 = 24 ∧ TnB h r h1 (-4) (typ h)) ∨ (¬ typ h 1 = 24 ∧ TnB h r h1 (typ h 1 + 1) (fun k => if k = 1 then typ h 1 + 1 else typ h k))) := by
  have z0 : (0 : Int32).toInt = 0 := by decide
  have z5 : (255 : Int32).toInt = 255 := by decide
  have zr : (24 : Int32).toInt = 24 := by decide
  have hfa : HM[124]? = some (.inl (0, 3, 0, 24, true)) := rfl
  have j1 : (0 : Int) ≤ (1 : Int32).toInt := by decide
  have j2 : (1 : Int32).toInt < ((3 : Nat) : Int) := by decide
  refine RP.step rfl ?_
  refine c_isText (v := 1) rfl (fun q1 q2 => ?_) (fun q => absurd ⟨by decide, by decide⟩ q)
  refine RP.step rfl ?_
  refine RP.step rfl ?_
  refine RP.step rfl ?_
  refine RP.step rfl ?_
  refine c_in (v := b) (a := 0) (b := 255) rfl (fun q3 q4 => ?_) (fun q => absurd ⟨by omega, by omega⟩ q)
  refine RP.step rfl ?_
  refine RP.step rfl ?_
  refine RP.getR rfl gh rfl ?_
  refine RP.step rfl ?_
  refine RP.ald (t := 0) rfl (Or.inl rfl) gh hfa j1 j2 (fun r1 r2 => ?_)
  have l1 : (0 : Int) ≤ (typ h 1).toInt := r1
  refine RP.step rfl ?_
  refine RP.step rfl ?_
  refine RP.step rfl ?_
  refine RP.icmp (x := typ h 1) (y := 24) rfl (fun c1 => ?_) (fun c1 => ?_)
  · have hne : ¬ typ h 1 = 24 := m_ne_iff.mp c1
    have hlt : (typ h 1).toInt < 24 := by
      have : ¬ (typ h 1).toInt = 24 := fun q => hne (Int32.toInt_inj.mp (q.trans zr.symm))
      omega
    have s1 : (1 : Int32).toInt = 1 := by decide
    have ls : (typ h 1 + 1).toInt = (typ h 1).toInt + 1 := (i32_add (by omega) (by omega)).trans (by omega)
    have hft : HM[125]? = some (.inl (0, 72, -2147483648, 2147483647, true)) := rfl
    have s24 : ((24 : Int32) * 1).toInt = 24 := by decide
    have li : ((24 : Int32) * 1 + typ h 1).toInt = 24 + (typ h 1).toInt := (i32_add (by omega) (by omega)).trans (by omega)
    refine RP.step rfl ?_
    refine RP.getR rfl gh rfl ?_
    refine RP.step rfl ?_
    refine RP.step rfl ?_
    refine RP.step rfl ?_
    refine RP.step rfl ?_
    refine RP.getR rfl gh rfl ?_
    refine RP.step rfl ?_
    refine RP.ald (t := 0) rfl (Or.inl rfl) gh hfa j1 j2 (fun r3 r4 => ?_)
    refine RP.step rfl ?_
    refine RP.step rfl ?_
    refine RP.ast (j := 24 * 1 + typ h 1) (x := b) rfl gh hft (by omega) (by show _ < ((72 : Nat) : Int); omega) ?_
    have zi := z_nat (j := 24 * 1 + typ h 1) (by omega)
    obtain ⟨ga, -, -⟩ := setA_sp (j := ((24 : Int32) * 1 + typ h 1).toNatClampNeg) (x := b) gh hft (by omega) (i32_ge b) (i32_le b)
    have et : ∀ k, aI (setA h 125 ((24 : Int32) * 1 + typ h 1).toNatClampNeg b) 124 k = typ h k := fun k => aI_cong (setA_ne (by decide))
    refine RP.step rfl ?_
    refine RP.getR rfl ga rfl ?_
    refine RP.step rfl ?_
    refine RP.step rfl ?_
    refine RP.ald (t := 0) rfl (Or.inl rfl) ga hfa j1 j2 (fun r5 r6 => ?_)
    refine RP.step rfl ?_
    refine RP.step rfl ?_
    show RP m_X7_type _ _ (Value.int (aI (setA h 125 ((24 : Int32) * 1 + typ h 1).toNatClampNeg b) 124 1 + 1) :: _) _ _
    rw [et]
    refine RP.ast (j := 1) (x := typ h 1 + 1) rfl ga hfa j1 j2 ?_
    obtain ⟨gb, e1, e2⟩ := setA_sp (j := 1) (x := typ h 1 + 1) ga hfa (by omega) (by omega) (by omega)
    refine RP.step rfl ?_
    refine RP.getR rfl gb rfl ?_
    refine RP.step rfl ?_
    refine RP.ald (t := 0) rfl (Or.inl rfl) gb hfa j1 j2 (fun r7 r8 => ?_)
    refine RP.ret rfl (Or.inr ⟨hne, gb, fun a ha => (setA_ne (by omega)).trans (setA_ne (by omega)), congrArg (fun z => some (Value.int z)) e1, fun k hk => ?_⟩)
    dsimp only
    by_cases e : k = 1
    · rw [if_pos e, e]; exact e1
    · rw [if_neg e]; exact (e2 k e).trans (et k)
  · have he : typ h 1 = 24 := Classical.not_not.mp (m_ff m_ne_iff c1)
    refine RP.step rfl ?_
    exact RP.ret rfl (Or.inl ⟨he, gh, sameB.rf h, rfl, fun k hk => rfl⟩)
theorem yb_type_2 (b : Int32) (h : MH) (gh : gH HM h) (hb1 : 0 ≤ b.toInt) (hb2 : b.toInt ≤ 255) (hroom : (typ h 2).toInt ≤ 24) : RP m_X7_type 0 (m_ent 3 [.ref 123, .int 2, .int b]) [] h (fun r h1 => (typ h 2 = 24 ∧ TnB h r h1 (-4) (typ h)) ∨ (¬ typ h 2 = 24 ∧ TnB h r h1 (typ h 2 + 1) (fun k => if k = 2 then typ h 2 + 1 else typ h k))) := by
  have z0 : (0 : Int32).toInt = 0 := by decide
  have z5 : (255 : Int32).toInt = 255 := by decide
  have zr : (24 : Int32).toInt = 24 := by decide
  have hfa : HM[124]? = some (.inl (0, 3, 0, 24, true)) := rfl
  have j1 : (0 : Int) ≤ (2 : Int32).toInt := by decide
  have j2 : (2 : Int32).toInt < ((3 : Nat) : Int) := by decide
  refine RP.step rfl ?_
  refine c_isText (v := 2) rfl (fun q1 q2 => ?_) (fun q => absurd ⟨by decide, by decide⟩ q)
  refine RP.step rfl ?_
  refine RP.step rfl ?_
  refine RP.step rfl ?_
  refine RP.step rfl ?_
  refine c_in (v := b) (a := 0) (b := 255) rfl (fun q3 q4 => ?_) (fun q => absurd ⟨by omega, by omega⟩ q)
  refine RP.step rfl ?_
  refine RP.step rfl ?_
  refine RP.getR rfl gh rfl ?_
  refine RP.step rfl ?_
  refine RP.ald (t := 0) rfl (Or.inl rfl) gh hfa j1 j2 (fun r1 r2 => ?_)
  have l1 : (0 : Int) ≤ (typ h 2).toInt := r1
  refine RP.step rfl ?_
  refine RP.step rfl ?_
  refine RP.step rfl ?_
  refine RP.icmp (x := typ h 2) (y := 24) rfl (fun c1 => ?_) (fun c1 => ?_)
  · have hne : ¬ typ h 2 = 24 := m_ne_iff.mp c1
    have hlt : (typ h 2).toInt < 24 := by
      have : ¬ (typ h 2).toInt = 24 := fun q => hne (Int32.toInt_inj.mp (q.trans zr.symm))
      omega
    have s1 : (1 : Int32).toInt = 1 := by decide
    have ls : (typ h 2 + 1).toInt = (typ h 2).toInt + 1 := (i32_add (by omega) (by omega)).trans (by omega)
    have hft : HM[125]? = some (.inl (0, 72, -2147483648, 2147483647, true)) := rfl
    have s24 : ((24 : Int32) * 2).toInt = 48 := by decide
    have li : ((24 : Int32) * 2 + typ h 2).toInt = 48 + (typ h 2).toInt := (i32_add (by omega) (by omega)).trans (by omega)
    refine RP.step rfl ?_
    refine RP.getR rfl gh rfl ?_
    refine RP.step rfl ?_
    refine RP.step rfl ?_
    refine RP.step rfl ?_
    refine RP.step rfl ?_
    refine RP.getR rfl gh rfl ?_
    refine RP.step rfl ?_
    refine RP.ald (t := 0) rfl (Or.inl rfl) gh hfa j1 j2 (fun r3 r4 => ?_)
    refine RP.step rfl ?_
    refine RP.step rfl ?_
    refine RP.ast (j := 24 * 2 + typ h 2) (x := b) rfl gh hft (by omega) (by show _ < ((72 : Nat) : Int); omega) ?_
    have zi := z_nat (j := 24 * 2 + typ h 2) (by omega)
    obtain ⟨ga, -, -⟩ := setA_sp (j := ((24 : Int32) * 2 + typ h 2).toNatClampNeg) (x := b) gh hft (by omega) (i32_ge b) (i32_le b)
    have et : ∀ k, aI (setA h 125 ((24 : Int32) * 2 + typ h 2).toNatClampNeg b) 124 k = typ h k := fun k => aI_cong (setA_ne (by decide))
    refine RP.step rfl ?_
    refine RP.getR rfl ga rfl ?_
    refine RP.step rfl ?_
    refine RP.step rfl ?_
    refine RP.ald (t := 0) rfl (Or.inl rfl) ga hfa j1 j2 (fun r5 r6 => ?_)
    refine RP.step rfl ?_
    refine RP.step rfl ?_
    show RP m_X7_type _ _ (Value.int (aI (setA h 125 ((24 : Int32) * 2 + typ h 2).toNatClampNeg b) 124 2 + 1) :: _) _ _
    rw [et]
    refine RP.ast (j := 2) (x := typ h 2 + 1) rfl ga hfa j1 j2 ?_
    obtain ⟨gb, e1, e2⟩ := setA_sp (j := 2) (x := typ h 2 + 1) ga hfa (by omega) (by omega) (by omega)
    refine RP.step rfl ?_
    refine RP.getR rfl gb rfl ?_
    refine RP.step rfl ?_
    refine RP.ald (t := 0) rfl (Or.inl rfl) gb hfa j1 j2 (fun r7 r8 => ?_)
    refine RP.ret rfl (Or.inr ⟨hne, gb, fun a ha => (setA_ne (by omega)).trans (setA_ne (by omega)), congrArg (fun z => some (Value.int z)) e1, fun k hk => ?_⟩)
    dsimp only
    by_cases e : k = 2
    · rw [if_pos e, e]; exact e1
    · rw [if_neg e]; exact (e2 k e).trans (et k)
  · have he : typ h 2 = 24 := Classical.not_not.mp (m_ff m_ne_iff c1)
    refine RP.step rfl ?_
    exact RP.ret rfl (Or.inl ⟨he, gh, sameB.rf h, rfl, fun k hk => rfl⟩)
theorem ys_wipe (t : Int32) (h : MH) (gh : gH HMs h) : RP m_X7_wipe 0 (m_ent 3 [.ref 123, .int t]) [] h (fun _ h1 => smY h h1) := by
  by_cases ht : 0 ≤ t.toInt ∧ t.toInt ≤ 2
  · exact (yb_wipe t h (gH.eq eq_HMr gh) ht.1 ht.2).mono (fun r h1 q => q.2.1.sm)
  · exact (y_wipe_bad t h ht).mono (fun r h1 q => by rw [q.1]; exact smY.rf _)
theorem ys_undo (t : Int32) (h : MH) (gh : gH HMs h) : RP m_X7_undo 0 (m_ent 2 [.ref 123, .int t]) [] h (fun _ h1 => smY h h1) := by
  by_cases ht : 0 ≤ t.toInt ∧ t.toInt ≤ 2
  · exact (yb_undo t h (gH.eq eq_HMr gh) ht.1 ht.2).mono (fun r h1 q => q.elim (fun w => w.2.2.1.sm) (fun w => w.2.2.1.sm))
  · exact (y_undo_bad t h ht).mono (fun r h1 q => by rw [q.1]; exact smY.rf _)
theorem ys_type (t b : Int32) (h : MH) (gh : gH HMs h) (h0 : (typ h 0).toInt ≤ 23) : RP m_X7_type 0 (m_ent 3 [.ref 123, .int t, .int b]) [] h (fun _ h1 => smY h h1) := by
  by_cases ht : (0 ≤ t.toInt ∧ t.toInt ≤ 2) ∧ (0 ≤ b.toInt ∧ b.toInt ≤ 255)
  · obtain ⟨-, -, -, -, k1, l1⟩ := aI_sp gh (show HMs[124]? = some (.inl (0, 3, 0, 24, true)) from rfl) (show 1 < 3 by decide)
    obtain ⟨-, -, -, -, k2, l2⟩ := aI_sp gh (show HMs[124]? = some (.inl (0, 3, 0, 24, true)) from rfl) (show 2 < 3 by decide)
    rcases x_012 ht.1.1 (show t.toInt < 3 by omega) with rfl | rfl | rfl
    · exact (yb_type_0 b h (gH.eq eq_HMr gh) ht.2.1 ht.2.2 h0).mono (fun r h1 q => q.elim (fun w => w.2.2.1.sm) (fun w => w.2.2.1.sm))
    · exact (yb_type_1 b h (gH.eq eq_HMr gh) ht.2.1 ht.2.2 l1).mono (fun r h1 q => q.elim (fun w => w.2.2.1.sm) (fun w => w.2.2.1.sm))
    · exact (yb_type_2 b h (gH.eq eq_HMr gh) ht.2.1 ht.2.2 l2).mono (fun r h1 q => q.elim (fun w => w.2.2.1.sm) (fun w => w.2.2.1.sm))
  · exact (y_type_bad t b h ht).mono (fun r h1 q => by rw [q.1]; exact smY.rf _)
