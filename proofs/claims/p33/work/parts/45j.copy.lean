/-! copy: the answer exact; what the sheets are stays (printed by wip/p1/copye.py) -/
def cpA (ls lt fs ft zs zt s i t j n : Int32) : Int32 := if ¬ (okS s ∧ okS t) then -2 else if ¬ ls = 0 ∨ ¬ lt = 0 then -11 else if ¬ fs = ft then -14 else if ¬ (0 ≤ i.toInt ∧ 0 ≤ j.toInt ∧ 0 ≤ n.toInt ∧ i.toInt + n.toInt ≤ zs.toInt ∧ j.toInt + n.toInt ≤ zt.toInt) then -12 else 1
theorem cpA_2 {ls lt fs ft zs zt s i t j n : Int32} (h : ¬ (okS s ∧ okS t)) : cpA ls lt fs ft zs zt s i t j n = -2 := by unfold cpA; rw [if_pos h]
theorem cpA_11 {ls lt fs ft zs zt s i t j n : Int32} (h : okS s ∧ okS t) (h1 : ¬ ls = 0 ∨ ¬ lt = 0) : cpA ls lt fs ft zs zt s i t j n = -11 := by unfold cpA; rw [if_neg (fun w => w h), if_pos h1]
theorem cpA_14 {ls lt fs ft zs zt s i t j n : Int32} (h : okS s ∧ okS t) (h1 : ls = 0) (h2 : lt = 0) (h3 : ¬ fs = ft) : cpA ls lt fs ft zs zt s i t j n = -14 := by
  unfold cpA
  rw [if_neg (fun w => w h), if_neg (fun w => w.elim (fun a => a h1) (fun a => a h2)), if_pos h3]
theorem cpA_12 {ls lt fs ft zs zt s i t j n : Int32} (h : okS s ∧ okS t) (h1 : ls = 0) (h2 : lt = 0) (h3 : fs = ft) (h4 : ¬ (0 ≤ i.toInt ∧ 0 ≤ j.toInt ∧ 0 ≤ n.toInt ∧ i.toInt + n.toInt ≤ zs.toInt ∧ j.toInt + n.toInt ≤ zt.toInt)) : cpA ls lt fs ft zs zt s i t j n = -12 := by
  unfold cpA
  rw [if_neg (fun w => w h), if_neg (fun w => w.elim (fun a => a h1) (fun a => a h2)), if_neg (fun w => w h3), if_pos h4]
theorem cpA_1 {ls lt fs ft zs zt s i t j n : Int32} (h : okS s ∧ okS t) (h1 : ls = 0) (h2 : lt = 0) (h3 : fs = ft) (h4 : 0 ≤ i.toInt ∧ 0 ≤ j.toInt ∧ 0 ≤ n.toInt ∧ i.toInt + n.toInt ≤ zs.toInt ∧ j.toInt + n.toInt ≤ zt.toInt) : cpA ls lt fs ft zs zt s i t j n = 1 := by
  unfold cpA
  rw [if_neg (fun w => w h), if_neg (fun w => w.elim (fun a => a h1) (fun a => a h2)), if_neg (fun w => w h3), if_neg (fun w => w h4)]
def CoX (s i t j n : Int32) (h : MH) (r : Option Value) (h1 : MH) : Prop := gH HCs h1 ∧ fH HCs h h1 ∧ r = some (.int (cpA (lo h s.toNatClampNeg) (lo h t.toNatClampNeg) (fo h s.toNatClampNeg) (fo h t.toNatClampNeg) (si h s.toNatClampNeg) (si h t.toNatClampNeg) s i t j n)) ∧ smX h h1
def thA (t : Int32) : Int32 := if t = 0 then 1 else 0
theorem thA_0 {t : Int32} (h : t = 0) : ¬ thA t = 0 := by unfold thA; rw [if_pos h]; decide
theorem thA_1 {t : Int32} (h : ¬ t = 0) : thA t = 0 := by unfold thA; rw [if_neg h]
def CoY (s i t j n : Int32) (h : MH) (r : Option Value) (h1 : MH) : Prop := gH HMs h1 ∧ fH HMs h h1 ∧ r = some (.int (cpA (thA (aI h 148 s.toNatClampNeg)) (thA (aI h 148 t.toNatClampNeg)) (aI h 149 s.toNatClampNeg) (aI h 149 t.toNatClampNeg) (aI h 150 s.toNatClampNeg) (aI h 150 t.toNatClampNeg) s i t j n)) ∧ smY h h1
theorem x_copyE (s i t j n : Int32) (h : MH) (gh : gH HCs h) : RP m_X6_copy 0 (m_ent 8 [.ref 0, .int s, .int i, .int t, .int j, .int n]) [] h (CoX s i t j n h) := by
  have z0 : (0 : Int32).toInt = 0 := by decide
  have z1 : (1 : Int32).toInt = 1 := by decide
  have z2 : (2 : Int32).toInt = 2 := by decide
  have z3 : (3 : Int32).toInt = 3 := by decide
  have z4 : (4 : Int32).toInt = 4 := by decide
  have z60 : (60 : Int32).toInt = 60 := by decide
  refine RP.step (i1 := 1) (L1 := [some (.ref 0), some (.int s), some (.int i), some (.int t), some (.int j), some (.int n), none, none]) (st1 := [.int s]) (h1 := h) rfl ?_
  refine RP.step (i1 := 2) (L1 := [some (.ref 0), some (.int s), some (.int i), some (.int t), some (.int j), some (.int n), none, none]) (st1 := [.int 4, .int s]) (h1 := h) rfl ?_
  refine c_isBelow (v := s) (n := 4) rfl (fun c1a c1b => ?_) (fun c1 => ?_)
  · skip
    rw [z4] at c1b
    obtain ⟨S1, S2, S3⟩ := sh_ix c1a c1b
    obtain ⟨Sf0, Sf1, Sf2, Sf3, Sf4, Sf5⟩ := sh_f s.toNatClampNeg S3
    have hok : okS s := ⟨c1a, by omega⟩
    refine RP.step (i1 := 4) (L1 := [some (.ref 0), some (.int s), some (.int i), some (.int t), some (.int j), some (.int n), none, none]) (st1 := []) (h1 := h) rfl ?_
    refine RP.step (i1 := 5) (L1 := [some (.ref 0), some (.int s), some (.int i), some (.int t), some (.int j), some (.int n), none, none]) (st1 := [.int t]) (h1 := h) rfl ?_
    refine RP.step (i1 := 6) (L1 := [some (.ref 0), some (.int s), some (.int i), some (.int t), some (.int j), some (.int n), none, none]) (st1 := [.int 4, .int t]) (h1 := h) rfl ?_
    refine c_isBelow (v := t) (n := 4) rfl (fun c3a c3b => ?_) (fun c3 => ?_)
    · skip
      rw [z4] at c3b
      obtain ⟨T1, T2, T3⟩ := sh_ix c3a c3b
      obtain ⟨Tf0, Tf1, Tf2, Tf3, Tf4, Tf5⟩ := sh_f t.toNatClampNeg T3
      have hokt : okS t := ⟨c3a, by omega⟩
      refine RP.step (i1 := 10) (L1 := [some (.ref 0), some (.int s), some (.int i), some (.int t), some (.int j), some (.int n), none, none]) (st1 := []) (h1 := h) rfl ?_
      refine RP.step (i1 := 11) (L1 := [some (.ref 0), some (.int s), some (.int i), some (.int t), some (.int j), some (.int n), none, none]) (st1 := [.ref 0]) (h1 := h) rfl ?_
      refine RP.getR (i := 11) rfl gh rfl ?_
      refine RP.step (i1 := 13) (L1 := [some (.ref 0), some (.int s), some (.int i), some (.int t), some (.int j), some (.int n), none, none]) (st1 := [.int s, .ref 9]) (h1 := h) rfl ?_
      refine RP.aald (i := 13) rfl gh rfl rfl S1 S2 ?_
      show RP m_X6_copy 14 [some (.ref 0), some (.int s), some (.int i), some (.int t), some (.int j), some (.int n), none, none] [.ref (115 + 2 * s.toNatClampNeg)] h _
      refine RP.step (i1 := 15) (L1 := [some (.ref 0), some (.int s), some (.int i), some (.int t), some (.int j), some (.int n), some (.ref (115 + 2 * s.toNatClampNeg)), none]) (st1 := []) (h1 := h) rfl ?_
      refine RP.step (i1 := 16) (L1 := [some (.ref 0), some (.int s), some (.int i), some (.int t), some (.int j), some (.int n), some (.ref (115 + 2 * s.toNatClampNeg)), none]) (st1 := [.ref 0]) (h1 := h) rfl ?_
      refine RP.getR (i := 16) rfl gh rfl ?_
      refine RP.step (i1 := 18) (L1 := [some (.ref 0), some (.int s), some (.int i), some (.int t), some (.int j), some (.int n), some (.ref (115 + 2 * s.toNatClampNeg)), none]) (st1 := [.int t, .ref 9]) (h1 := h) rfl ?_
      refine RP.aald (i := 18) rfl gh rfl rfl T1 T2 ?_
      show RP m_X6_copy 19 [some (.ref 0), some (.int s), some (.int i), some (.int t), some (.int j), some (.int n), some (.ref (115 + 2 * s.toNatClampNeg)), none] [.ref (115 + 2 * t.toNatClampNeg)] h _
      refine RP.step (i1 := 20) (L1 := [some (.ref 0), some (.int s), some (.int i), some (.int t), some (.int j), some (.int n), some (.ref (115 + 2 * s.toNatClampNeg)), some (.ref (115 + 2 * t.toNatClampNeg))]) (st1 := []) (h1 := h) rfl ?_
      refine RP.step (i1 := 21) (L1 := [some (.ref 0), some (.int s), some (.int i), some (.int t), some (.int j), some (.int n), some (.ref (115 + 2 * s.toNatClampNeg)), some (.ref (115 + 2 * t.toNatClampNeg))]) (st1 := [.ref (115 + 2 * s.toNatClampNeg)]) (h1 := h) rfl ?_
      refine RP.getI (i := 21) rfl gh Sf1 (fun b51 b52 => ?_)
      show RP m_X6_copy 22 [some (.ref 0), some (.int s), some (.int i), some (.int t), some (.int j), some (.int n), some (.ref (115 + 2 * s.toNatClampNeg)), some (.ref (115 + 2 * t.toNatClampNeg))] [.int (fI h (115 + 2 * s.toNatClampNeg) 1)] h _
      refine RP.ifc (x := fI h (115 + 2 * s.toNatClampNeg) 1) rfl (fun c6 => ?_) (fun c6 => ?_)
      · skip
        have c6 := m_ne_iff.mp c6
        refine RP.step (i1 := 27) (L1 := [some (.ref 0), some (.int s), some (.int i), some (.int t), some (.int j), some (.int n), some (.ref (115 + 2 * s.toNatClampNeg)), some (.ref (115 + 2 * t.toNatClampNeg))]) (st1 := [.ref 0]) (h1 := h) rfl ?_
        refine RP.step (i1 := 28) (L1 := [some (.ref 0), some (.int s), some (.int i), some (.int t), some (.int j), some (.int n), some (.ref (115 + 2 * s.toNatClampNeg)), some (.ref (115 + 2 * t.toNatClampNeg))]) (st1 := [.int 1, .ref 0]) (h1 := h) rfl ?_
        refine c_find (v := 1) rfl rfl rfl rfl rfl gh (fun g9 t9 => ?_)
        exact RP.ret rfl ⟨g9, t9, by rw [cpA_11 ⟨hok, hokt⟩ (by first | exact Or.inl (by assumption) | exact Or.inr (by assumption))]; rfl, smX_n0⟩
      · skip
        have c6 := m_ff m_ne_iff c6
        refine RP.step (i1 := 24) (L1 := [some (.ref 0), some (.int s), some (.int i), some (.int t), some (.int j), some (.int n), some (.ref (115 + 2 * s.toNatClampNeg)), some (.ref (115 + 2 * t.toNatClampNeg))]) (st1 := [.ref (115 + 2 * t.toNatClampNeg)]) (h1 := h) rfl ?_
        refine RP.getI (i := 24) rfl gh Tf1 (fun b71 b72 => ?_)
        show RP m_X6_copy 25 [some (.ref 0), some (.int s), some (.int i), some (.int t), some (.int j), some (.int n), some (.ref (115 + 2 * s.toNatClampNeg)), some (.ref (115 + 2 * t.toNatClampNeg))] [.int (fI h (115 + 2 * t.toNatClampNeg) 1)] h _
        refine RP.ifc (x := fI h (115 + 2 * t.toNatClampNeg) 1) rfl (fun c8 => ?_) (fun c8 => ?_)
        · skip
          have c8 := m_eq_iff.mp c8
          refine RP.step (i1 := 31) (L1 := [some (.ref 0), some (.int s), some (.int i), some (.int t), some (.int j), some (.int n), some (.ref (115 + 2 * s.toNatClampNeg)), some (.ref (115 + 2 * t.toNatClampNeg))]) (st1 := [.ref (115 + 2 * s.toNatClampNeg)]) (h1 := h) rfl ?_
          refine RP.getI (i := 31) rfl gh Sf2 (fun b91 b92 => ?_)
          show RP m_X6_copy 32 [some (.ref 0), some (.int s), some (.int i), some (.int t), some (.int j), some (.int n), some (.ref (115 + 2 * s.toNatClampNeg)), some (.ref (115 + 2 * t.toNatClampNeg))] [.int (fI h (115 + 2 * s.toNatClampNeg) 2)] h _
          refine RP.step (i1 := 33) (L1 := [some (.ref 0), some (.int s), some (.int i), some (.int t), some (.int j), some (.int n), some (.ref (115 + 2 * s.toNatClampNeg)), some (.ref (115 + 2 * t.toNatClampNeg))]) (st1 := [.ref (115 + 2 * t.toNatClampNeg), .int (fI h (115 + 2 * s.toNatClampNeg) 2)]) (h1 := h) rfl ?_
          refine RP.getI (i := 33) rfl gh Tf2 (fun b101 b102 => ?_)
          show RP m_X6_copy 34 [some (.ref 0), some (.int s), some (.int i), some (.int t), some (.int j), some (.int n), some (.ref (115 + 2 * s.toNatClampNeg)), some (.ref (115 + 2 * t.toNatClampNeg))] [.int (fI h (115 + 2 * t.toNatClampNeg) 2), .int (fI h (115 + 2 * s.toNatClampNeg) 2)] h _
          refine RP.icmp (x := fI h (115 + 2 * s.toNatClampNeg) 2) (y := fI h (115 + 2 * t.toNatClampNeg) 2) rfl (fun c11 => ?_) (fun c11 => ?_)
          · skip
            have c11 := m_eq_iff.mp c11
            refine RP.step (i1 := 40) (L1 := [some (.ref 0), some (.int s), some (.int i), some (.int t), some (.int j), some (.int n), some (.ref (115 + 2 * s.toNatClampNeg)), some (.ref (115 + 2 * t.toNatClampNeg))]) (st1 := [.ref (115 + 2 * s.toNatClampNeg)]) (h1 := h) rfl ?_
            refine RP.step (i1 := 41) (L1 := [some (.ref 0), some (.int s), some (.int i), some (.int t), some (.int j), some (.int n), some (.ref (115 + 2 * s.toNatClampNeg)), some (.ref (115 + 2 * t.toNatClampNeg))]) (st1 := [.int i, .ref (115 + 2 * s.toNatClampNeg)]) (h1 := h) rfl ?_
            refine RP.step (i1 := 42) (L1 := [some (.ref 0), some (.int s), some (.int i), some (.int t), some (.int j), some (.int n), some (.ref (115 + 2 * s.toNatClampNeg)), some (.ref (115 + 2 * t.toNatClampNeg))]) (st1 := [.int n, .int i, .ref (115 + 2 * s.toNatClampNeg)]) (h1 := h) rfl ?_
            refine c_hasRange (i := 42) rfl rfl rfl rfl rfl gh S3 (fun p1 p2 p3 => ?_) (fun c12 => ?_)
            · skip
              refine RP.step (i1 := 44) (L1 := [some (.ref 0), some (.int s), some (.int i), some (.int t), some (.int j), some (.int n), some (.ref (115 + 2 * s.toNatClampNeg)), some (.ref (115 + 2 * t.toNatClampNeg))]) (st1 := []) (h1 := h) rfl ?_
              refine RP.step (i1 := 45) (L1 := [some (.ref 0), some (.int s), some (.int i), some (.int t), some (.int j), some (.int n), some (.ref (115 + 2 * s.toNatClampNeg)), some (.ref (115 + 2 * t.toNatClampNeg))]) (st1 := [.ref (115 + 2 * t.toNatClampNeg)]) (h1 := h) rfl ?_
              refine RP.step (i1 := 46) (L1 := [some (.ref 0), some (.int s), some (.int i), some (.int t), some (.int j), some (.int n), some (.ref (115 + 2 * s.toNatClampNeg)), some (.ref (115 + 2 * t.toNatClampNeg))]) (st1 := [.int j, .ref (115 + 2 * t.toNatClampNeg)]) (h1 := h) rfl ?_
              refine RP.step (i1 := 47) (L1 := [some (.ref 0), some (.int s), some (.int i), some (.int t), some (.int j), some (.int n), some (.ref (115 + 2 * s.toNatClampNeg)), some (.ref (115 + 2 * t.toNatClampNeg))]) (st1 := [.int n, .int j, .ref (115 + 2 * t.toNatClampNeg)]) (h1 := h) rfl ?_
              refine c_hasRange (i := 47) rfl rfl rfl rfl rfl gh T3 (fun p4 p5 p6 => ?_) (fun c14 => ?_)
              · skip
                refine RP.step (i1 := 53) (L1 := [some (.ref 0), some (.int s), some (.int i), some (.int t), some (.int j), some (.int n), some (.ref (115 + 2 * s.toNatClampNeg)), some (.ref (115 + 2 * t.toNatClampNeg))]) (st1 := []) (h1 := h) rfl ?_
                refine RP.step (i1 := 54) (L1 := [some (.ref 0), some (.int s), some (.int i), some (.int t), some (.int j), some (.int n), some (.ref (115 + 2 * s.toNatClampNeg)), some (.ref (115 + 2 * t.toNatClampNeg))]) (st1 := [.ref (115 + 2 * s.toNatClampNeg)]) (h1 := h) rfl ?_
                refine RP.getR (i := 54) rfl gh Sf0 ?_
                refine RP.step (i1 := 56) (L1 := [some (.ref 0), some (.int s), some (.int i), some (.int t), some (.int j), some (.int n), some (.ref (115 + 2 * s.toNatClampNeg)), some (.ref (115 + 2 * t.toNatClampNeg))]) (st1 := [.int i, .ref (116 + 2 * s.toNatClampNeg)]) (h1 := h) rfl ?_
                refine RP.step (i1 := 57) (L1 := [some (.ref 0), some (.int s), some (.int i), some (.int t), some (.int j), some (.int n), some (.ref (115 + 2 * s.toNatClampNeg)), some (.ref (115 + 2 * t.toNatClampNeg))]) (st1 := [.ref (115 + 2 * t.toNatClampNeg), .int i, .ref (116 + 2 * s.toNatClampNeg)]) (h1 := h) rfl ?_
                refine RP.getR (i := 57) rfl gh Tf0 ?_
                refine RP.step (i1 := 59) (L1 := [some (.ref 0), some (.int s), some (.int i), some (.int t), some (.int j), some (.int n), some (.ref (115 + 2 * s.toNatClampNeg)), some (.ref (115 + 2 * t.toNatClampNeg))]) (st1 := [.int j, .ref (116 + 2 * t.toNatClampNeg), .int i, .ref (116 + 2 * s.toNatClampNeg)]) (h1 := h) rfl ?_
                refine RP.step (i1 := 60) (L1 := [some (.ref 0), some (.int s), some (.int i), some (.int t), some (.int j), some (.int n), some (.ref (115 + 2 * s.toNatClampNeg)), some (.ref (115 + 2 * t.toNatClampNeg))]) (st1 := [.int n, .int j, .ref (116 + 2 * t.toNatClampNeg), .int i, .ref (116 + 2 * s.toNatClampNeg)]) (h1 := h) rfl ?_
                obtain ⟨-, -, -, z1, z2⟩ := fI_sp gh Sf3
                obtain ⟨-, -, -, w1, w2⟩ := fI_sp gh Tf3
                refine RP.cpy (i := 60) rfl rfl gh Sf4 Tf4 p1 p4 p2 (by show _ ≤ ((60 : Nat) : Int); omega) (by show _ ≤ ((60 : Nat) : Int); omega) rfl (fun h5 g5 f5 fb => ?_)
                have smX_b : smX h h5 := fun q hq => ⟨fI_cong (fb _ (by omega)), fI_cong (fb _ (by omega)), fI_cong (fb _ (by omega))⟩
                refine RP.step (i1 := 62) (L1 := [some (.ref 0), some (.int s), some (.int i), some (.int t), some (.int j), some (.int n), some (.ref (115 + 2 * s.toNatClampNeg)), some (.ref (115 + 2 * t.toNatClampNeg))]) (st1 := [.int 1]) (h1 := h5) rfl ?_
                exact RP.ret rfl ⟨g5, f5, by rw [cpA_1 ⟨hok, hokt⟩ (by first | assumption | exact Decidable.of_not_not (by assumption)) (by first | assumption | exact Decidable.of_not_not (by assumption)) (by first | assumption | exact Decidable.of_not_not (by assumption)) ⟨p1, p4, p2, p3, p6⟩], smX_b⟩
              · skip
                refine RP.step (i1 := 49) (L1 := [some (.ref 0), some (.int s), some (.int i), some (.int t), some (.int j), some (.int n), some (.ref (115 + 2 * s.toNatClampNeg)), some (.ref (115 + 2 * t.toNatClampNeg))]) (st1 := []) (h1 := h) rfl ?_
                refine RP.step (i1 := 50) (L1 := [some (.ref 0), some (.int s), some (.int i), some (.int t), some (.int j), some (.int n), some (.ref (115 + 2 * s.toNatClampNeg)), some (.ref (115 + 2 * t.toNatClampNeg))]) (st1 := [.ref 0]) (h1 := h) rfl ?_
                refine RP.step (i1 := 51) (L1 := [some (.ref 0), some (.int s), some (.int i), some (.int t), some (.int j), some (.int n), some (.ref (115 + 2 * s.toNatClampNeg)), some (.ref (115 + 2 * t.toNatClampNeg))]) (st1 := [.int 2, .ref 0]) (h1 := h) rfl ?_
                refine c_find (v := 2) rfl rfl rfl rfl rfl gh (fun g9 t9 => ?_)
                exact RP.ret rfl ⟨g9, t9, by rw [cpA_12 ⟨hok, hokt⟩ (by first | assumption | exact Decidable.of_not_not (by assumption)) (by first | assumption | exact Decidable.of_not_not (by assumption)) (by first | assumption | exact Decidable.of_not_not (by assumption)) (fun w => c14 ⟨w.2.1, w.2.2.1, w.2.2.2.2⟩)]; rfl, smX_n0⟩
            · skip
              refine RP.step (i1 := 49) (L1 := [some (.ref 0), some (.int s), some (.int i), some (.int t), some (.int j), some (.int n), some (.ref (115 + 2 * s.toNatClampNeg)), some (.ref (115 + 2 * t.toNatClampNeg))]) (st1 := []) (h1 := h) rfl ?_
              refine RP.step (i1 := 50) (L1 := [some (.ref 0), some (.int s), some (.int i), some (.int t), some (.int j), some (.int n), some (.ref (115 + 2 * s.toNatClampNeg)), some (.ref (115 + 2 * t.toNatClampNeg))]) (st1 := [.ref 0]) (h1 := h) rfl ?_
              refine RP.step (i1 := 51) (L1 := [some (.ref 0), some (.int s), some (.int i), some (.int t), some (.int j), some (.int n), some (.ref (115 + 2 * s.toNatClampNeg)), some (.ref (115 + 2 * t.toNatClampNeg))]) (st1 := [.int 2, .ref 0]) (h1 := h) rfl ?_
              refine c_find (v := 2) rfl rfl rfl rfl rfl gh (fun g9 t9 => ?_)
              exact RP.ret rfl ⟨g9, t9, by rw [cpA_12 ⟨hok, hokt⟩ (by first | assumption | exact Decidable.of_not_not (by assumption)) (by first | assumption | exact Decidable.of_not_not (by assumption)) (by first | assumption | exact Decidable.of_not_not (by assumption)) (fun w => c12 ⟨w.1, w.2.2.1, w.2.2.2.1⟩)]; rfl, smX_n0⟩
          · skip
            have c11 := m_ff m_eq_iff c11
            refine RP.step (i1 := 36) (L1 := [some (.ref 0), some (.int s), some (.int i), some (.int t), some (.int j), some (.int n), some (.ref (115 + 2 * s.toNatClampNeg)), some (.ref (115 + 2 * t.toNatClampNeg))]) (st1 := [.ref 0]) (h1 := h) rfl ?_
            refine RP.step (i1 := 37) (L1 := [some (.ref 0), some (.int s), some (.int i), some (.int t), some (.int j), some (.int n), some (.ref (115 + 2 * s.toNatClampNeg)), some (.ref (115 + 2 * t.toNatClampNeg))]) (st1 := [.int 4, .ref 0]) (h1 := h) rfl ?_
            refine c_find (v := 4) rfl rfl rfl rfl rfl gh (fun g9 t9 => ?_)
            exact RP.ret rfl ⟨g9, t9, by rw [cpA_14 ⟨hok, hokt⟩ (by first | assumption | exact Decidable.of_not_not (by assumption)) (by first | assumption | exact Decidable.of_not_not (by assumption)) (by assumption)]; rfl, smX_n0⟩
        · skip
          have c8 := m_ff m_eq_iff c8
          refine RP.step (i1 := 27) (L1 := [some (.ref 0), some (.int s), some (.int i), some (.int t), some (.int j), some (.int n), some (.ref (115 + 2 * s.toNatClampNeg)), some (.ref (115 + 2 * t.toNatClampNeg))]) (st1 := [.ref 0]) (h1 := h) rfl ?_
          refine RP.step (i1 := 28) (L1 := [some (.ref 0), some (.int s), some (.int i), some (.int t), some (.int j), some (.int n), some (.ref (115 + 2 * s.toNatClampNeg)), some (.ref (115 + 2 * t.toNatClampNeg))]) (st1 := [.int 1, .ref 0]) (h1 := h) rfl ?_
          refine c_find (v := 1) rfl rfl rfl rfl rfl gh (fun g9 t9 => ?_)
          exact RP.ret rfl ⟨g9, t9, by rw [cpA_11 ⟨hok, hokt⟩ (by first | exact Or.inl (by assumption) | exact Or.inr (by assumption))]; rfl, smX_n0⟩
    · skip
      rw [z4] at c3
      refine RP.step (i1 := 8) (L1 := [some (.ref 0), some (.int s), some (.int i), some (.int t), some (.int j), some (.int n), none, none]) (st1 := []) (h1 := h) rfl ?_
      refine RP.step (i1 := 9) (L1 := [some (.ref 0), some (.int s), some (.int i), some (.int t), some (.int j), some (.int n), none, none]) (st1 := [.int (-2)]) (h1 := h) rfl ?_
      exact RP.ret rfl ⟨gh, fH.rf _ _, by rw [cpA_2 (fun w => c3 ⟨w.2.1, by have := w.2.2; omega⟩)], smX.rf _⟩
  · skip
    rw [z4] at c1
    refine RP.step (i1 := 8) (L1 := [some (.ref 0), some (.int s), some (.int i), some (.int t), some (.int j), some (.int n), none, none]) (st1 := []) (h1 := h) rfl ?_
    refine RP.step (i1 := 9) (L1 := [some (.ref 0), some (.int s), some (.int i), some (.int t), some (.int j), some (.int n), none, none]) (st1 := [.int (-2)]) (h1 := h) rfl ?_
    exact RP.ret rfl ⟨gh, fH.rf _ _, by rw [cpA_2 (fun w => c1 ⟨w.1.1, by have := w.1.2; omega⟩)], smX.rf _⟩
theorem y_copyE_2 (s i t j n : Int32) (u1 : 0 ≤ t.toInt) (u2 : t.toInt ≤ 3) (j1 : 0 ≤ j.toInt) (n1 : 0 ≤ n.toInt) (n2 : n.toInt ≤ 60) (j2 : j.toInt + n.toInt ≤ 60) : ∀ (N : Nat) (k : Int32) (h : MH), gH HMs h → 0 ≤ k.toInt → k.toInt ≤ n.toInt → n.toInt - k.toInt < N → RP m_X7_copy 92 [some (.ref 123), some (.int s), some (.int i), some (.int t), some (.int j), some (.int n), some (.int k)] [] h (fun r h1 => gH HMs h1 ∧ fH HMs h h1 ∧ r = some (.int 1) ∧ smY h h1) := by
  have z1 : (1 : Int32).toInt = 1 := by decide
  have z6 : (60 : Int32).toInt = 60 := by decide
  intro N
  induction N with
  | zero => intro k h _ _ _ q; exact absurd q (by omega)
  | succ N ih =>
    intro k h gh k1 k2 hN
    have e1 : (60 * t).toInt = 60 * t.toInt := i32_mulc z6 (by omega) (by omega)
    have e2 : (60 * t + j).toInt = 60 * t.toInt + j.toInt := (i32_add (by omega) (by omega)).trans (by omega)
    refine RP.step rfl ?_
    refine RP.step rfl ?_
    refine RP.icmp (x := k) (y := n) rfl (fun c => RP.step rfl (RP.ret rfl ⟨gh, fH.rf _ _, rfl, smY.rf _⟩)) (fun c => ?_)
    have c1 := m_ff m_ge_iff c
    have e3 : (60 * t + j + k).toInt = 60 * t.toInt + j.toInt + k.toInt := (i32_add (by omega) (by omega)).trans (by omega)
    have e4 : (k + 1).toInt = k.toInt + 1 := (i32_add (by omega) (by omega)).trans (by omega)
    refine RP.step rfl ?_
    refine RP.getR rfl gh rfl ?_
    refine RP.step rfl ?_
    refine RP.step rfl ?_
    refine RP.step rfl ?_
    refine RP.step rfl ?_
    refine RP.step rfl ?_
    refine RP.step rfl ?_
    refine RP.step rfl ?_
    refine RP.step rfl ?_
    refine RP.getR rfl gh rfl ?_
    refine RP.step rfl ?_
    refine RP.ald (t := 0) (j := k) rfl (Or.inl rfl) gh (show HMs[152]? = some (.inl (0, 60, -2147483648, 2147483647, false)) from rfl) k1 (by show _ < ((60 : Nat) : Int); omega) (fun _ _ => ?_)
    refine RP.ast (j := 60 * t + j + k) rfl gh (show HMs[151]? = some (.inl (0, 240, -2147483648, 2147483647, false)) from rfl) (by omega) (by show _ < ((240 : Nat) : Int); omega) ?_
    obtain ⟨g1, f1⟩ := setA_s (j := (60 * t + j + k).toNatClampNeg) (x := aI h 152 k.toNatClampNeg) gh (show HMs[151]? = some (.inl (0, 240, -2147483648, 2147483647, false)) from rfl) (i32_ge _) (i32_le _)
    refine RP.step (L1 := [some (.ref 123), some (.int s), some (.int i), some (.int t), some (.int j), some (.int n), some (.int (k + 1))]) rfl ?_
    refine RP.step rfl ?_
    exact (ih (k + 1) _ g1 (by omega) (by omega) (by omega)).mono (fun r h2 q => ⟨q.1, fH.tr g1 f1 q.2.1, q.2.2.1, smY.tr ⟨setA_ne (by decide), setA_ne (by decide), setA_ne (by decide)⟩ q.2.2.2⟩)
theorem y_copyE_1 (s i t j n : Int32) (a1 : 0 ≤ s.toInt) (a2 : s.toInt ≤ 3) (u1 : 0 ≤ t.toInt) (u2 : t.toInt ≤ 3) (i1 : 0 ≤ i.toInt) (i2 : i.toInt + n.toInt ≤ 60) (j1 : 0 ≤ j.toInt) (n1 : 0 ≤ n.toInt) (n2 : n.toInt ≤ 60) (j2 : j.toInt + n.toInt ≤ 60) : ∀ (N : Nat) (k : Int32) (h : MH), gH HMs h → 0 ≤ k.toInt → k.toInt ≤ n.toInt → n.toInt - k.toInt < N → RP m_X7_copy 71 [some (.ref 123), some (.int s), some (.int i), some (.int t), some (.int j), some (.int n), some (.int k)] [] h (fun r h1 => gH HMs h1 ∧ fH HMs h h1 ∧ r = some (.int 1) ∧ smY h h1) := by
  have z1 : (1 : Int32).toInt = 1 := by decide
  have z6 : (60 : Int32).toInt = 60 := by decide
  intro N
  induction N with
  | zero => intro k h _ _ _ q; exact absurd q (by omega)
  | succ N ih =>
    intro k h gh k1 k2 hN
    have e1 : (60 * s).toInt = 60 * s.toInt := i32_mulc z6 (by omega) (by omega)
    have e2 : (60 * s + i).toInt = 60 * s.toInt + i.toInt := (i32_add (by omega) (by omega)).trans (by omega)
    refine RP.step rfl ?_
    refine RP.step rfl ?_
    refine RP.icmp (x := k) (y := n) rfl (fun c => ?_) (fun c => ?_)
    · refine RP.step rfl ?_
      refine RP.step (L1 := [some (.ref 123), some (.int s), some (.int i), some (.int t), some (.int j), some (.int n), some (.int 0)]) rfl ?_
      exact y_copyE_2 s i t j n u1 u2 j1 n1 n2 j2 61 0 h gh (by decide) n1 (by show n.toInt - 0 < 61; omega)
    have c1 := m_ff m_ge_iff c
    have e3 : (60 * s + i + k).toInt = 60 * s.toInt + i.toInt + k.toInt := (i32_add (by omega) (by omega)).trans (by omega)
    have e4 : (k + 1).toInt = k.toInt + 1 := (i32_add (by omega) (by omega)).trans (by omega)
    refine RP.step rfl ?_
    refine RP.getR rfl gh rfl ?_
    refine RP.step rfl ?_
    refine RP.step rfl ?_
    refine RP.getR rfl gh rfl ?_
    refine RP.step rfl ?_
    refine RP.step rfl ?_
    refine RP.step rfl ?_
    refine RP.step rfl ?_
    refine RP.step rfl ?_
    refine RP.step rfl ?_
    refine RP.step rfl ?_
    refine RP.ald (t := 0) (j := 60 * s + i + k) rfl (Or.inl rfl) gh (show HMs[151]? = some (.inl (0, 240, -2147483648, 2147483647, false)) from rfl) (by omega) (by show _ < ((240 : Nat) : Int); omega) (fun _ _ => ?_)
    refine RP.ast (j := k) rfl gh (show HMs[152]? = some (.inl (0, 60, -2147483648, 2147483647, false)) from rfl) k1 (by show _ < ((60 : Nat) : Int); omega) ?_
    obtain ⟨g1, f1⟩ := setA_s (j := k.toNatClampNeg) (x := aI h 151 (60 * s + i + k).toNatClampNeg) gh (show HMs[152]? = some (.inl (0, 60, -2147483648, 2147483647, false)) from rfl) (i32_ge _) (i32_le _)
    refine RP.step (L1 := [some (.ref 123), some (.int s), some (.int i), some (.int t), some (.int j), some (.int n), some (.int (k + 1))]) rfl ?_
    refine RP.step rfl ?_
    exact (ih (k + 1) _ g1 (by omega) (by omega) (by omega)).mono (fun r h2 q => ⟨q.1, fH.tr g1 f1 q.2.1, q.2.2.1, smY.tr ⟨setA_ne (by decide), setA_ne (by decide), setA_ne (by decide)⟩ q.2.2.2⟩)
theorem y_copyE (s i t j n : Int32) (h : MH) (gh : gH HMs h) : RP m_X7_copy 0 (m_ent 7 [.ref 123, .int s, .int i, .int t, .int j, .int n]) [] h (CoY s i t j n h) := by
  have z0 : (0 : Int32).toInt = 0 := by decide
  have z1 : (1 : Int32).toInt = 1 := by decide
  have z2 : (2 : Int32).toInt = 2 := by decide
  have z3 : (3 : Int32).toInt = 3 := by decide
  have z4 : (4 : Int32).toInt = 4 := by decide
  have z60 : (60 : Int32).toInt = 60 := by decide
  have s148 : HMs[148]? = some (.inl (1, 4, 0, 1, false)) := rfl
  have s149 : HMs[149]? = some (.inl (0, 4, -2147483648, 2147483647, false)) := rfl
  have s150 : HMs[150]? = some (.inl (0, 4, 0, 60, false)) := rfl
  have s151 : HMs[151]? = some (.inl (0, 240, -2147483648, 2147483647, false)) := rfl
  refine RP.step (i1 := 1) (L1 := [some (.ref 123), some (.int s), some (.int i), some (.int t), some (.int j), some (.int n), none]) (st1 := [.int s]) (h1 := h) rfl ?_
  refine c_isSheet (v := s) rfl (fun c1a c1b => ?_) (fun c1 => ?_)
  · skip
    have hok : okS s := ⟨c1a, c1b⟩
    have hn := nat_cl c1a
    refine RP.step (i1 := 3) (L1 := [some (.ref 123), some (.int s), some (.int i), some (.int t), some (.int j), some (.int n), none]) (st1 := []) (h1 := h) rfl ?_
    refine RP.step (i1 := 4) (L1 := [some (.ref 123), some (.int s), some (.int i), some (.int t), some (.int j), some (.int n), none]) (st1 := [.int t]) (h1 := h) rfl ?_
    refine c_isSheet (v := t) rfl (fun c3a c3b => ?_) (fun c3 => ?_)
    · skip
      have hokt : okS t := ⟨c3a, c3b⟩
      have hnt := nat_cl c3a
      refine RP.step (i1 := 8) (L1 := [some (.ref 123), some (.int s), some (.int i), some (.int t), some (.int j), some (.int n), none]) (st1 := []) (h1 := h) rfl ?_
      refine RP.step (i1 := 9) (L1 := [some (.ref 123), some (.int s), some (.int i), some (.int t), some (.int j), some (.int n), none]) (st1 := [.ref 123]) (h1 := h) rfl ?_
      refine RP.getR (i := 9) rfl gh rfl ?_
      refine RP.step (i1 := 11) (L1 := [some (.ref 123), some (.int s), some (.int i), some (.int t), some (.int j), some (.int n), none]) (st1 := [.int s, .ref 148]) (h1 := h) rfl ?_
      refine RP.ald (i := 11) (t := 1) (j := s) rfl (Or.inr rfl) gh s148 c1a (by show _ < ((4 : Nat) : Int); omega) (fun b51 b52 => ?_)
      refine RP.ifc (x := aI h 148 s.toNatClampNeg) rfl (fun c6 => ?_) (fun c6 => ?_)
      · skip
        have c6 := m_eq_iff.mp c6
        have c6n : ¬ ¬ aI h 148 s.toNatClampNeg = 0 := fun w => w c6
        refine RP.step (i1 := 19) (L1 := [some (.ref 123), some (.int s), some (.int i), some (.int t), some (.int j), some (.int n), none]) (st1 := [.ref 123]) (h1 := h) rfl ?_
        refine RP.step (i1 := 20) (L1 := [some (.ref 123), some (.int s), some (.int i), some (.int t), some (.int j), some (.int n), none]) (st1 := [.int 1, .ref 123]) (h1 := h) rfl ?_
        refine c_meets (v := 1) rfl rfl rfl rfl rfl gh (fun g9 t9 => ?_)
        exact RP.ret rfl ⟨g9, t9, by rw [cpA_11 ⟨hok, hokt⟩ (by first | exact Or.inl (thA_0 (by first | assumption | exact Decidable.of_not_not (by assumption))) | exact Or.inr (thA_0 (by first | assumption | exact Decidable.of_not_not (by assumption))))]; rfl, smY_F⟩
      · skip
        have c6 := m_ff m_eq_iff c6
        refine RP.step (i1 := 14) (L1 := [some (.ref 123), some (.int s), some (.int i), some (.int t), some (.int j), some (.int n), none]) (st1 := [.ref 123]) (h1 := h) rfl ?_
        refine RP.getR (i := 14) rfl gh rfl ?_
        refine RP.step (i1 := 16) (L1 := [some (.ref 123), some (.int s), some (.int i), some (.int t), some (.int j), some (.int n), none]) (st1 := [.int t, .ref 148]) (h1 := h) rfl ?_
        refine RP.ald (i := 16) (t := 1) (j := t) rfl (Or.inr rfl) gh s148 c3a (by show _ < ((4 : Nat) : Int); omega) (fun b71 b72 => ?_)
        refine RP.ifc (x := aI h 148 t.toNatClampNeg) rfl (fun c8 => ?_) (fun c8 => ?_)
        · skip
          have c8 := m_ne_iff.mp c8
          refine RP.step (i1 := 23) (L1 := [some (.ref 123), some (.int s), some (.int i), some (.int t), some (.int j), some (.int n), none]) (st1 := [.ref 123]) (h1 := h) rfl ?_
          refine RP.getR (i := 23) rfl gh rfl ?_
          refine RP.step (i1 := 25) (L1 := [some (.ref 123), some (.int s), some (.int i), some (.int t), some (.int j), some (.int n), none]) (st1 := [.int s, .ref 149]) (h1 := h) rfl ?_
          refine RP.ald (i := 25) (t := 0) (j := s) rfl (Or.inl rfl) gh s149 c1a (by show _ < ((4 : Nat) : Int); omega) (fun b91 b92 => ?_)
          refine RP.step (i1 := 27) (L1 := [some (.ref 123), some (.int s), some (.int i), some (.int t), some (.int j), some (.int n), none]) (st1 := [.ref 123, .int (aI h 149 s.toNatClampNeg)]) (h1 := h) rfl ?_
          refine RP.getR (i := 27) rfl gh rfl ?_
          refine RP.step (i1 := 29) (L1 := [some (.ref 123), some (.int s), some (.int i), some (.int t), some (.int j), some (.int n), none]) (st1 := [.int t, .ref 149, .int (aI h 149 s.toNatClampNeg)]) (h1 := h) rfl ?_
          refine RP.ald (i := 29) (t := 0) (j := t) rfl (Or.inl rfl) gh s149 c3a (by show _ < ((4 : Nat) : Int); omega) (fun b101 b102 => ?_)
          refine RP.icmp (x := aI h 149 s.toNatClampNeg) (y := aI h 149 t.toNatClampNeg) rfl (fun c11 => ?_) (fun c11 => ?_)
          · skip
            have c11 := m_eq_iff.mp c11
            have c11n : ¬ ¬ aI h 149 s.toNatClampNeg = aI h 149 t.toNatClampNeg := fun w => w c11
            refine RP.step (i1 := 36) (L1 := [some (.ref 123), some (.int s), some (.int i), some (.int t), some (.int j), some (.int n), none]) (st1 := [.int i]) (h1 := h) rfl ?_
            refine RP.ifc (x := i) rfl (fun c12 => ?_) (fun c12 => ?_)
            · skip
              have c12 := m_lt_iff.mp c12
              refine RP.step (i1 := 66) (L1 := [some (.ref 123), some (.int s), some (.int i), some (.int t), some (.int j), some (.int n), none]) (st1 := [.ref 123]) (h1 := h) rfl ?_
              refine RP.step (i1 := 67) (L1 := [some (.ref 123), some (.int s), some (.int i), some (.int t), some (.int j), some (.int n), none]) (st1 := [.int 2, .ref 123]) (h1 := h) rfl ?_
              refine c_meets (v := 2) rfl rfl rfl rfl rfl gh (fun g9 t9 => ?_)
              exact RP.ret rfl ⟨g9, t9, by rw [cpA_12 ⟨hok, hokt⟩ (thA_1 (by assumption)) (thA_1 (by assumption)) (by first | assumption | exact Decidable.of_not_not (by assumption)) (by omega)]; rfl, smY_F⟩
            · skip
              have c12 := m_ff m_lt_iff c12
              refine RP.step (i1 := 38) (L1 := [some (.ref 123), some (.int s), some (.int i), some (.int t), some (.int j), some (.int n), none]) (st1 := [.int j]) (h1 := h) rfl ?_
              refine RP.ifc (x := j) rfl (fun c13 => ?_) (fun c13 => ?_)
              · skip
                have c13 := m_lt_iff.mp c13
                refine RP.step (i1 := 66) (L1 := [some (.ref 123), some (.int s), some (.int i), some (.int t), some (.int j), some (.int n), none]) (st1 := [.ref 123]) (h1 := h) rfl ?_
                refine RP.step (i1 := 67) (L1 := [some (.ref 123), some (.int s), some (.int i), some (.int t), some (.int j), some (.int n), none]) (st1 := [.int 2, .ref 123]) (h1 := h) rfl ?_
                refine c_meets (v := 2) rfl rfl rfl rfl rfl gh (fun g9 t9 => ?_)
                exact RP.ret rfl ⟨g9, t9, by rw [cpA_12 ⟨hok, hokt⟩ (thA_1 (by assumption)) (thA_1 (by assumption)) (by first | assumption | exact Decidable.of_not_not (by assumption)) (by omega)]; rfl, smY_F⟩
              · skip
                have c13 := m_ff m_lt_iff c13
                refine RP.step (i1 := 40) (L1 := [some (.ref 123), some (.int s), some (.int i), some (.int t), some (.int j), some (.int n), none]) (st1 := [.int n]) (h1 := h) rfl ?_
                refine RP.ifc (x := n) rfl (fun c14 => ?_) (fun c14 => ?_)
                · skip
                  have c14 := m_lt_iff.mp c14
                  refine RP.step (i1 := 66) (L1 := [some (.ref 123), some (.int s), some (.int i), some (.int t), some (.int j), some (.int n), none]) (st1 := [.ref 123]) (h1 := h) rfl ?_
                  refine RP.step (i1 := 67) (L1 := [some (.ref 123), some (.int s), some (.int i), some (.int t), some (.int j), some (.int n), none]) (st1 := [.int 2, .ref 123]) (h1 := h) rfl ?_
                  refine c_meets (v := 2) rfl rfl rfl rfl rfl gh (fun g9 t9 => ?_)
                  exact RP.ret rfl ⟨g9, t9, by rw [cpA_12 ⟨hok, hokt⟩ (thA_1 (by assumption)) (thA_1 (by assumption)) (by first | assumption | exact Decidable.of_not_not (by assumption)) (by omega)]; rfl, smY_F⟩
                · skip
                  have c14 := m_ff m_lt_iff c14
                  refine RP.step (i1 := 42) (L1 := [some (.ref 123), some (.int s), some (.int i), some (.int t), some (.int j), some (.int n), none]) (st1 := [.int i]) (h1 := h) rfl ?_
                  refine RP.step (i1 := 43) (L1 := [some (.ref 123), some (.int s), some (.int i), some (.int t), some (.int j), some (.int n), none]) (st1 := [.long (i.toInt64)]) (h1 := h) rfl ?_
                  refine RP.step (i1 := 44) (L1 := [some (.ref 123), some (.int s), some (.int i), some (.int t), some (.int j), some (.int n), none]) (st1 := [.int n, .long (i.toInt64)]) (h1 := h) rfl ?_
                  refine RP.step (i1 := 45) (L1 := [some (.ref 123), some (.int s), some (.int i), some (.int t), some (.int j), some (.int n), none]) (st1 := [.long (n.toInt64), .long (i.toInt64)]) (h1 := h) rfl ?_
                  refine RP.step (i1 := 46) (L1 := [some (.ref 123), some (.int s), some (.int i), some (.int t), some (.int j), some (.int n), none]) (st1 := [.long (i.toInt64 + n.toInt64)]) (h1 := h) rfl ?_
                  refine RP.step (i1 := 47) (L1 := [some (.ref 123), some (.int s), some (.int i), some (.int t), some (.int j), some (.int n), none]) (st1 := [.ref 123, .long (i.toInt64 + n.toInt64)]) (h1 := h) rfl ?_
                  refine RP.getR (i := 47) rfl gh rfl ?_
                  refine RP.step (i1 := 49) (L1 := [some (.ref 123), some (.int s), some (.int i), some (.int t), some (.int j), some (.int n), none]) (st1 := [.int s, .ref 150, .long (i.toInt64 + n.toInt64)]) (h1 := h) rfl ?_
                  refine RP.ald (i := 49) (t := 0) (j := s) rfl (Or.inl rfl) gh s150 c1a (by show _ < ((4 : Nat) : Int); omega) (fun b151 b152 => ?_)
                  refine RP.step (i1 := 51) (L1 := [some (.ref 123), some (.int s), some (.int i), some (.int t), some (.int j), some (.int n), none]) (st1 := [.long ((aI h 150 s.toNatClampNeg).toInt64), .long (i.toInt64 + n.toInt64)]) (h1 := h) rfl ?_
                  refine RP.step (i1 := 52) (L1 := [some (.ref 123), some (.int s), some (.int i), some (.int t), some (.int j), some (.int n), none]) (st1 := [.int (lg_cmp (i.toInt64 + n.toInt64) ((aI h 150 s.toNatClampNeg).toInt64))]) (h1 := h) rfl ?_
                  refine RP.ifc (x := lg_cmp (i.toInt64 + n.toInt64) ((aI h 150 s.toNatClampNeg).toInt64)) rfl (fun c16 => ?_) (fun c16 => ?_)
                  · skip
                    have c16 := lgc_gt.mp c16
                    rw [i64_sum, Int32.toInt_toInt64] at c16
                    refine RP.step (i1 := 66) (L1 := [some (.ref 123), some (.int s), some (.int i), some (.int t), some (.int j), some (.int n), none]) (st1 := [.ref 123]) (h1 := h) rfl ?_
                    refine RP.step (i1 := 67) (L1 := [some (.ref 123), some (.int s), some (.int i), some (.int t), some (.int j), some (.int n), none]) (st1 := [.int 2, .ref 123]) (h1 := h) rfl ?_
                    refine c_meets (v := 2) rfl rfl rfl rfl rfl gh (fun g9 t9 => ?_)
                    exact RP.ret rfl ⟨g9, t9, by rw [cpA_12 ⟨hok, hokt⟩ (thA_1 (by assumption)) (thA_1 (by assumption)) (by first | assumption | exact Decidable.of_not_not (by assumption)) (by omega)]; rfl, smY_F⟩
                  · skip
                    have c16 := m_ff lgc_gt c16
                    rw [i64_sum, Int32.toInt_toInt64] at c16
                    refine RP.step (i1 := 54) (L1 := [some (.ref 123), some (.int s), some (.int i), some (.int t), some (.int j), some (.int n), none]) (st1 := [.int j]) (h1 := h) rfl ?_
                    refine RP.step (i1 := 55) (L1 := [some (.ref 123), some (.int s), some (.int i), some (.int t), some (.int j), some (.int n), none]) (st1 := [.long (j.toInt64)]) (h1 := h) rfl ?_
                    refine RP.step (i1 := 56) (L1 := [some (.ref 123), some (.int s), some (.int i), some (.int t), some (.int j), some (.int n), none]) (st1 := [.int n, .long (j.toInt64)]) (h1 := h) rfl ?_
                    refine RP.step (i1 := 57) (L1 := [some (.ref 123), some (.int s), some (.int i), some (.int t), some (.int j), some (.int n), none]) (st1 := [.long (n.toInt64), .long (j.toInt64)]) (h1 := h) rfl ?_
                    refine RP.step (i1 := 58) (L1 := [some (.ref 123), some (.int s), some (.int i), some (.int t), some (.int j), some (.int n), none]) (st1 := [.long (j.toInt64 + n.toInt64)]) (h1 := h) rfl ?_
                    refine RP.step (i1 := 59) (L1 := [some (.ref 123), some (.int s), some (.int i), some (.int t), some (.int j), some (.int n), none]) (st1 := [.ref 123, .long (j.toInt64 + n.toInt64)]) (h1 := h) rfl ?_
                    refine RP.getR (i := 59) rfl gh rfl ?_
                    refine RP.step (i1 := 61) (L1 := [some (.ref 123), some (.int s), some (.int i), some (.int t), some (.int j), some (.int n), none]) (st1 := [.int t, .ref 150, .long (j.toInt64 + n.toInt64)]) (h1 := h) rfl ?_
                    refine RP.ald (i := 61) (t := 0) (j := t) rfl (Or.inl rfl) gh s150 c3a (by show _ < ((4 : Nat) : Int); omega) (fun b171 b172 => ?_)
                    refine RP.step (i1 := 63) (L1 := [some (.ref 123), some (.int s), some (.int i), some (.int t), some (.int j), some (.int n), none]) (st1 := [.long ((aI h 150 t.toNatClampNeg).toInt64), .long (j.toInt64 + n.toInt64)]) (h1 := h) rfl ?_
                    refine RP.step (i1 := 64) (L1 := [some (.ref 123), some (.int s), some (.int i), some (.int t), some (.int j), some (.int n), none]) (st1 := [.int (lg_cmp (j.toInt64 + n.toInt64) ((aI h 150 t.toNatClampNeg).toInt64))]) (h1 := h) rfl ?_
                    refine RP.ifc (x := lg_cmp (j.toInt64 + n.toInt64) ((aI h 150 t.toNatClampNeg).toInt64)) rfl (fun c18 => ?_) (fun c18 => ?_)
                    · skip
                      have c18 := lgc_le.mp c18
                      rw [i64_sum, Int32.toInt_toInt64] at c18
                      refine RP.step rfl ?_
                      refine RP.step (L1 := [some (.ref 123), some (.int s), some (.int i), some (.int t), some (.int j), some (.int n), some (.int 0)]) rfl ?_
                      refine (y_copyE_1 s i t j n c1a c1b c3a c3b (by omega) (by omega) (by omega) (by omega) (by omega) (by omega) 61 0 h gh (by decide) (by show 0 ≤ n.toInt; omega) (by show n.toInt - 0 < 61; omega)).mono (fun r h2 q => ⟨q.1, q.2.1, ?_, q.2.2.2⟩)
                      rw [cpA_1 ⟨hok, hokt⟩ (thA_1 (by assumption)) (thA_1 (by assumption)) (by first | assumption | exact Decidable.of_not_not (by assumption)) ⟨by omega, by omega, by omega, by omega, by omega⟩]
                      exact q.2.2.1
                    · skip
                      have c18 := m_ff lgc_le c18
                      rw [i64_sum, Int32.toInt_toInt64] at c18
                      refine RP.step (i1 := 66) (L1 := [some (.ref 123), some (.int s), some (.int i), some (.int t), some (.int j), some (.int n), none]) (st1 := [.ref 123]) (h1 := h) rfl ?_
                      refine RP.step (i1 := 67) (L1 := [some (.ref 123), some (.int s), some (.int i), some (.int t), some (.int j), some (.int n), none]) (st1 := [.int 2, .ref 123]) (h1 := h) rfl ?_
                      refine c_meets (v := 2) rfl rfl rfl rfl rfl gh (fun g9 t9 => ?_)
                      exact RP.ret rfl ⟨g9, t9, by rw [cpA_12 ⟨hok, hokt⟩ (thA_1 (by assumption)) (thA_1 (by assumption)) (by first | assumption | exact Decidable.of_not_not (by assumption)) (by omega)]; rfl, smY_F⟩
          · skip
            have c11 := m_ff m_eq_iff c11
            refine RP.step (i1 := 32) (L1 := [some (.ref 123), some (.int s), some (.int i), some (.int t), some (.int j), some (.int n), none]) (st1 := [.ref 123]) (h1 := h) rfl ?_
            refine RP.step (i1 := 33) (L1 := [some (.ref 123), some (.int s), some (.int i), some (.int t), some (.int j), some (.int n), none]) (st1 := [.int 4, .ref 123]) (h1 := h) rfl ?_
            refine c_meets (v := 4) rfl rfl rfl rfl rfl gh (fun g9 t9 => ?_)
            exact RP.ret rfl ⟨g9, t9, by rw [cpA_14 ⟨hok, hokt⟩ (thA_1 (by assumption)) (thA_1 (by assumption)) (by assumption)]; rfl, smY_F⟩
        · skip
          have c8 := m_ff m_ne_iff c8
          have c8n := Decidable.of_not_not c8
          refine RP.step (i1 := 19) (L1 := [some (.ref 123), some (.int s), some (.int i), some (.int t), some (.int j), some (.int n), none]) (st1 := [.ref 123]) (h1 := h) rfl ?_
          refine RP.step (i1 := 20) (L1 := [some (.ref 123), some (.int s), some (.int i), some (.int t), some (.int j), some (.int n), none]) (st1 := [.int 1, .ref 123]) (h1 := h) rfl ?_
          refine c_meets (v := 1) rfl rfl rfl rfl rfl gh (fun g9 t9 => ?_)
          exact RP.ret rfl ⟨g9, t9, by rw [cpA_11 ⟨hok, hokt⟩ (by first | exact Or.inl (thA_0 (by first | assumption | exact Decidable.of_not_not (by assumption))) | exact Or.inr (thA_0 (by first | assumption | exact Decidable.of_not_not (by assumption))))]; rfl, smY_F⟩
    · skip
      refine RP.step (i1 := 6) (L1 := [some (.ref 123), some (.int s), some (.int i), some (.int t), some (.int j), some (.int n), none]) (st1 := []) (h1 := h) rfl ?_
      refine RP.step (i1 := 7) (L1 := [some (.ref 123), some (.int s), some (.int i), some (.int t), some (.int j), some (.int n), none]) (st1 := [.int (-2)]) (h1 := h) rfl ?_
      exact RP.ret rfl ⟨gh, fH.rf _ _, by rw [cpA_2 (fun w => c3 w.2)], smY.rf _⟩
  · skip
    refine RP.step (i1 := 6) (L1 := [some (.ref 123), some (.int s), some (.int i), some (.int t), some (.int j), some (.int n), none]) (st1 := []) (h1 := h) rfl ?_
    refine RP.step (i1 := 7) (L1 := [some (.ref 123), some (.int s), some (.int i), some (.int t), some (.int j), some (.int n), none]) (st1 := [.int (-2)]) (h1 := h) rfl ?_
    exact RP.ret rfl ⟨gh, fH.rf _ _, by rw [cpA_2 (fun w => c1 w.1)], smY.rf _⟩
