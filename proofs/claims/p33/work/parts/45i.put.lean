/-! put: what is wrong with an item, keep, put, exact (printed by wip/p1/putx.py) -/
def fdA (l f z form i : Int32) : Int32 := if ¬ l = 0 then 1 else if ¬ f = form then 3 else if 0 ≤ i.toInt ∧ i.toInt < z.toInt then 0 else 2
def cvA (f v : Int32) : Int32 := if f = 0 then v.toInt8.toInt32 else if f = 1 then v.toInt16.toInt32 else v
theorem x_findingOf (q : Nat) (hq : q < 4) (form i : Int32) (h : MH) (gh : gH HCs h) : RP m_X3_findingOf 0 (m_ent 3 [.ref (115 + 2 * q), .int form, .int i]) [] h (fun r h1 => h1 = h ∧ r = some (.int (fdA (lo h q) (fo h q) (si h q) form i))) := by
  obtain ⟨s0, s1, s2, s3, s4, s5⟩ := sh_f q hq
  refine RP.step (i1 := 1) (L1 := [some (.ref (115 + 2 * q)), some (.int form), some (.int i)]) (st1 := [.ref (115 + 2 * q)]) (h1 := h) rfl ?_
  refine RP.getI (i := 1) rfl gh s1 (fun b11 b12 => ?_)
  show RP m_X3_findingOf 2 [some (.ref (115 + 2 * q)), some (.int form), some (.int i)] [.int (fI h (115 + 2 * q) 1)] h _
  refine RP.ifc (x := fI h (115 + 2 * q) 1) rfl (fun c2 => ?_) (fun c2 => ?_)
  · skip
    have c2 := m_eq_iff.mp c2
    have c2n : ¬ ¬ fI h (115 + 2 * q) 1 = 0 := fun w => w c2
    refine RP.step (i1 := 6) (L1 := [some (.ref (115 + 2 * q)), some (.int form), some (.int i)]) (st1 := [.ref (115 + 2 * q)]) (h1 := h) rfl ?_
    refine RP.getI (i := 6) rfl gh s2 (fun b31 b32 => ?_)
    show RP m_X3_findingOf 7 [some (.ref (115 + 2 * q)), some (.int form), some (.int i)] [.int (fI h (115 + 2 * q) 2)] h _
    refine RP.step (i1 := 8) (L1 := [some (.ref (115 + 2 * q)), some (.int form), some (.int i)]) (st1 := [.int form, .int (fI h (115 + 2 * q) 2)]) (h1 := h) rfl ?_
    refine RP.icmp (x := fI h (115 + 2 * q) 2) (y := form) rfl (fun c4 => ?_) (fun c4 => ?_)
    · skip
      have c4 := m_eq_iff.mp c4
      have c4n : ¬ ¬ fI h (115 + 2 * q) 2 = form := fun w => w c4
      refine RP.step (i1 := 12) (L1 := [some (.ref (115 + 2 * q)), some (.int form), some (.int i)]) (st1 := [.int i]) (h1 := h) rfl ?_
      refine RP.step (i1 := 13) (L1 := [some (.ref (115 + 2 * q)), some (.int form), some (.int i)]) (st1 := [.ref (115 + 2 * q), .int i]) (h1 := h) rfl ?_
      refine RP.getI (i := 13) rfl gh s3 (fun b51 b52 => ?_)
      show RP m_X3_findingOf 14 [some (.ref (115 + 2 * q)), some (.int form), some (.int i)] [.int (fI h (115 + 2 * q) 3), .int i] h _
      refine c_isBelow (v := i) (n := fI h (115 + 2 * q) 3) rfl (fun c6a c6b => ?_) (fun c6 => ?_)
      · skip
        refine RP.step (i1 := 16) (L1 := [some (.ref (115 + 2 * q)), some (.int form), some (.int i)]) (st1 := []) (h1 := h) rfl ?_
        refine RP.step (i1 := 17) (L1 := [some (.ref (115 + 2 * q)), some (.int form), some (.int i)]) (st1 := [.int 0]) (h1 := h) rfl ?_
        refine RP.step (i1 := 19) (L1 := [some (.ref (115 + 2 * q)), some (.int form), some (.int i)]) (st1 := [.int 0]) (h1 := h) rfl ?_
        refine RP.ret rfl ⟨rfl, ?_⟩
        unfold fdA
        rw [if_neg (by assumption), if_neg (by assumption), if_pos ⟨by assumption, by assumption⟩]
      · skip
        refine RP.step (i1 := 18) (L1 := [some (.ref (115 + 2 * q)), some (.int form), some (.int i)]) (st1 := []) (h1 := h) rfl ?_
        refine RP.step (i1 := 19) (L1 := [some (.ref (115 + 2 * q)), some (.int form), some (.int i)]) (st1 := [.int 2]) (h1 := h) rfl ?_
        refine RP.ret rfl ⟨rfl, ?_⟩
        unfold fdA
        rw [if_neg (by assumption), if_neg (by assumption), if_neg (by assumption)]
    · skip
      have c4 := m_ff m_eq_iff c4
      refine RP.step (i1 := 10) (L1 := [some (.ref (115 + 2 * q)), some (.int form), some (.int i)]) (st1 := [.int 3]) (h1 := h) rfl ?_
      refine RP.ret rfl ⟨rfl, ?_⟩
      unfold fdA
      rw [if_neg (by assumption), if_pos (by assumption)]
  · skip
    have c2 := m_ff m_eq_iff c2
    refine RP.step (i1 := 4) (L1 := [some (.ref (115 + 2 * q)), some (.int form), some (.int i)]) (st1 := [.int 1]) (h1 := h) rfl ?_
    refine RP.ret rfl ⟨rfl, ?_⟩
    unfold fdA
    rw [if_pos (by assumption)]
def lkA (t f z form i : Int32) : Int32 := fdA (if t = 0 then 1 else 0) f z form i
theorem lkA_0 {t f z form i : Int32} (h : t = 0) : lkA t f z form i = 1 := by
  unfold lkA fdA
  rw [if_pos h, if_pos (by decide)]
theorem lkA_1 {t f z form i : Int32} (h : ¬ t = 0) : lkA t f z form i = fdA 0 f z form i := by
  unfold lkA
  rw [if_neg h]
theorem y_lacks (s form i : Int32) (a1 : 0 ≤ s.toInt) (a2 : s.toInt ≤ 3) (h : MH) (gh : gH HMs h) : RP m_X7_lacks 0 (m_ent 4 [.ref 123, .int s, .int form, .int i]) [] h (fun r h1 => h1 = h ∧ r = some (.int (lkA (aI h 148 s.toNatClampNeg) (aI h 149 s.toNatClampNeg) (aI h 150 s.toNatClampNeg) form i))) := by
  have hn := nat_cl a1
  have z0 : (0 : Int32).toInt = 0 := by decide
  have z1 : (1 : Int32).toInt = 1 := by decide
  have z2 : (2 : Int32).toInt = 2 := by decide
  have z3 : (3 : Int32).toInt = 3 := by decide
  have z4 : (4 : Int32).toInt = 4 := by decide
  have z60 : (60 : Int32).toInt = 60 := by decide
  have s148 : HMs[148]? = some (.inl (1, 4, 0, 1, false)) := rfl
  have s149 : HMs[149]? = some (.inl (0, 4, -2147483648, 2147483647, false)) := rfl
  have s150 : HMs[150]? = some (.inl (0, 4, 0, 60, false)) := rfl
  have s151 : HMs[151]? = some (.inl (0, 240, -2147483648, 2147483647, false)) := rfl
  refine RP.step (i1 := 1) (L1 := [some (.ref 123), some (.int s), some (.int form), some (.int i)]) (st1 := [.ref 123]) (h1 := h) rfl ?_
  refine RP.getR (i := 1) rfl gh rfl ?_
  refine RP.step (i1 := 3) (L1 := [some (.ref 123), some (.int s), some (.int form), some (.int i)]) (st1 := [.int s, .ref 148]) (h1 := h) rfl ?_
  refine RP.ald (i := 3) (t := 1) (j := s) rfl (Or.inr rfl) gh s148 a1 (by show _ < ((4 : Nat) : Int); omega) (fun b11 b12 => ?_)
  refine RP.ifc (x := aI h 148 s.toNatClampNeg) rfl (fun c2 => ?_) (fun c2 => ?_)
  · skip
    have c2 := m_ne_iff.mp c2
    refine RP.step (i1 := 8) (L1 := [some (.ref 123), some (.int s), some (.int form), some (.int i)]) (st1 := [.ref 123]) (h1 := h) rfl ?_
    refine RP.getR (i := 8) rfl gh rfl ?_
    refine RP.step (i1 := 10) (L1 := [some (.ref 123), some (.int s), some (.int form), some (.int i)]) (st1 := [.int s, .ref 149]) (h1 := h) rfl ?_
    refine RP.ald (i := 10) (t := 0) (j := s) rfl (Or.inl rfl) gh s149 a1 (by show _ < ((4 : Nat) : Int); omega) (fun b31 b32 => ?_)
    refine RP.step (i1 := 12) (L1 := [some (.ref 123), some (.int s), some (.int form), some (.int i)]) (st1 := [.int form, .int (aI h 149 s.toNatClampNeg)]) (h1 := h) rfl ?_
    refine RP.icmp (x := aI h 149 s.toNatClampNeg) (y := form) rfl (fun c4 => ?_) (fun c4 => ?_)
    · skip
      have c4 := m_eq_iff.mp c4
      have c4n : ¬ ¬ aI h 149 s.toNatClampNeg = form := fun w => w c4
      refine RP.step (i1 := 16) (L1 := [some (.ref 123), some (.int s), some (.int form), some (.int i)]) (st1 := [.int i]) (h1 := h) rfl ?_
      refine RP.step (i1 := 17) (L1 := [some (.ref 123), some (.int s), some (.int form), some (.int i)]) (st1 := [.int 0, .int i]) (h1 := h) rfl ?_
      refine RP.step (i1 := 18) (L1 := [some (.ref 123), some (.int s), some (.int form), some (.int i)]) (st1 := [.ref 123, .int 0, .int i]) (h1 := h) rfl ?_
      refine RP.getR (i := 18) rfl gh rfl ?_
      refine RP.step (i1 := 20) (L1 := [some (.ref 123), some (.int s), some (.int form), some (.int i)]) (st1 := [.int s, .ref 150, .int 0, .int i]) (h1 := h) rfl ?_
      refine RP.ald (i := 20) (t := 0) (j := s) rfl (Or.inl rfl) gh s150 a1 (by show _ < ((4 : Nat) : Int); omega) (fun b51 b52 => ?_)
      refine RP.step (i1 := 22) (L1 := [some (.ref 123), some (.int s), some (.int form), some (.int i)]) (st1 := [.int 1, .int (aI h 150 s.toNatClampNeg), .int 0, .int i]) (h1 := h) rfl ?_
      refine RP.step (i1 := 23) (L1 := [some (.ref 123), some (.int s), some (.int form), some (.int i)]) (st1 := [.int ((aI h 150 s.toNatClampNeg) - 1), .int 0, .int i]) (h1 := h) rfl ?_
      have e9 : (aI h 150 s.toNatClampNeg - 1).toInt = (aI h 150 s.toNatClampNeg).toInt - 1 := by
        obtain ⟨-, -, -, -, k1, k2⟩ := aI_sp gh s150 (show s.toNatClampNeg < 4 by omega)
        exact (i32_sub (by omega) (by omega)).trans (by omega)
      refine c_in (v := i) (a := 0) (b := (aI h 150 s.toNatClampNeg) - 1) rfl (fun c6a c6b => ?_) (fun c6 => ?_)
      · skip
        refine RP.step (i1 := 25) (L1 := [some (.ref 123), some (.int s), some (.int form), some (.int i)]) (st1 := []) (h1 := h) rfl ?_
        refine RP.step (i1 := 26) (L1 := [some (.ref 123), some (.int s), some (.int form), some (.int i)]) (st1 := [.int 0]) (h1 := h) rfl ?_
        refine RP.step (i1 := 28) (L1 := [some (.ref 123), some (.int s), some (.int form), some (.int i)]) (st1 := [.int 0]) (h1 := h) rfl ?_
        refine RP.ret rfl ⟨rfl, ?_⟩
        rw [lkA_1 (by assumption)]
        unfold fdA
        rw [if_neg (by decide), if_neg (by assumption), if_pos ⟨by omega, by omega⟩]
      · skip
        refine RP.step (i1 := 27) (L1 := [some (.ref 123), some (.int s), some (.int form), some (.int i)]) (st1 := []) (h1 := h) rfl ?_
        refine RP.step (i1 := 28) (L1 := [some (.ref 123), some (.int s), some (.int form), some (.int i)]) (st1 := [.int 2]) (h1 := h) rfl ?_
        refine RP.ret rfl ⟨rfl, ?_⟩
        rw [lkA_1 (by assumption)]
        unfold fdA
        rw [if_neg (by decide), if_neg (by assumption), if_neg (by omega)]
    · skip
      have c4 := m_ff m_eq_iff c4
      refine RP.step (i1 := 14) (L1 := [some (.ref 123), some (.int s), some (.int form), some (.int i)]) (st1 := [.int 3]) (h1 := h) rfl ?_
      refine RP.step (i1 := 28) (L1 := [some (.ref 123), some (.int s), some (.int form), some (.int i)]) (st1 := [.int 3]) (h1 := h) rfl ?_
      refine RP.ret rfl ⟨rfl, ?_⟩
      rw [lkA_1 (by assumption)]
      unfold fdA
      rw [if_neg (by decide), if_pos (by assumption)]
  · skip
    have c2 := m_ff m_ne_iff c2
    have c2n := Decidable.of_not_not c2
    refine RP.step (i1 := 6) (L1 := [some (.ref 123), some (.int s), some (.int form), some (.int i)]) (st1 := [.int 1]) (h1 := h) rfl ?_
    refine RP.step (i1 := 28) (L1 := [some (.ref 123), some (.int s), some (.int form), some (.int i)]) (st1 := [.int 1]) (h1 := h) rfl ?_
    refine RP.ret rfl ⟨rfl, ?_⟩
    rw [lkA_0 (by assumption)]
theorem x_keep (q : Nat) (hq : q < 4) (i v : Int32) (i1 : 0 ≤ i.toInt) (i2 : i.toInt < 60) (h : MH) (gh : gH HCs h) : RP m_X3_keep 0 (m_ent 3 [.ref (115 + 2 * q), .int i, .int v]) [] h (fun r h1 => r = none ∧ gH HCs h1 ∧ fH HCs h h1 ∧ h1 = setA h (116 + 2 * q) i.toNatClampNeg (cvA (fo h q) v)) := by
  obtain ⟨s0, s1, s2, s3, s4, s5⟩ := sh_f q hq
  refine RP.step (i1 := 1) (L1 := [some (.ref (115 + 2 * q)), some (.int i), some (.int v)]) (st1 := [.ref (115 + 2 * q)]) (h1 := h) rfl ?_
  refine RP.getR (i := 1) rfl gh s0 ?_
  refine RP.step (i1 := 3) (L1 := [some (.ref (115 + 2 * q)), some (.int i), some (.int v)]) (st1 := [.int i, .ref (116 + 2 * q)]) (h1 := h) rfl ?_
  refine RP.step (i1 := 4) (L1 := [some (.ref (115 + 2 * q)), some (.int i), some (.int v)]) (st1 := [.ref (115 + 2 * q), .int i, .ref (116 + 2 * q)]) (h1 := h) rfl ?_
  refine RP.getI (i := 4) rfl gh s2 (fun b11 b12 => ?_)
  show RP m_X3_keep 5 [some (.ref (115 + 2 * q)), some (.int i), some (.int v)] [.int (fI h (115 + 2 * q) 2), .int i, .ref (116 + 2 * q)] h _
  refine RP.ifc (x := fI h (115 + 2 * q) 2) rfl (fun c2 => ?_) (fun c2 => ?_)
  · skip
    have c2 := m_ne_iff.mp c2
    refine RP.step (i1 := 10) (L1 := [some (.ref (115 + 2 * q)), some (.int i), some (.int v)]) (st1 := [.ref (115 + 2 * q), .int i, .ref (116 + 2 * q)]) (h1 := h) rfl ?_
    refine RP.getI (i := 10) rfl gh s2 (fun b31 b32 => ?_)
    show RP m_X3_keep 11 [some (.ref (115 + 2 * q)), some (.int i), some (.int v)] [.int (fI h (115 + 2 * q) 2), .int i, .ref (116 + 2 * q)] h _
    refine RP.step (i1 := 12) (L1 := [some (.ref (115 + 2 * q)), some (.int i), some (.int v)]) (st1 := [.int 1, .int (fI h (115 + 2 * q) 2), .int i, .ref (116 + 2 * q)]) (h1 := h) rfl ?_
    refine RP.icmp (x := fI h (115 + 2 * q) 2) (y := 1) rfl (fun c4 => ?_) (fun c4 => ?_)
    · skip
      have c4 := m_ne_iff.mp c4
      refine RP.step (i1 := 17) (L1 := [some (.ref (115 + 2 * q)), some (.int i), some (.int v)]) (st1 := [.int v, .int i, .ref (116 + 2 * q)]) (h1 := h) rfl ?_
      refine RP.ast (i := 17) (j := i) (x := v) rfl gh s4 i1 (by show _ < ((60 : Nat) : Int); omega) ?_
      obtain ⟨g1, f1⟩ := setA_s (j := i.toNatClampNeg) (x := v) gh s4 (i32_ge _) (i32_le _)
      refine RP.ret rfl ⟨rfl, g1, f1, ?_⟩
      unfold cvA
      rw [if_neg (by assumption), if_neg (by assumption)]
    · skip
      have c4 := m_ff m_ne_iff c4
      have c4n := Decidable.of_not_not c4
      refine RP.step (i1 := 14) (L1 := [some (.ref (115 + 2 * q)), some (.int i), some (.int v)]) (st1 := [.int v, .int i, .ref (116 + 2 * q)]) (h1 := h) rfl ?_
      refine RP.step (i1 := 15) (L1 := [some (.ref (115 + 2 * q)), some (.int i), some (.int v)]) (st1 := [.int (v.toInt16.toInt32), .int i, .ref (116 + 2 * q)]) (h1 := h) rfl ?_
      refine RP.step (i1 := 17) (L1 := [some (.ref (115 + 2 * q)), some (.int i), some (.int v)]) (st1 := [.int (v.toInt16.toInt32), .int i, .ref (116 + 2 * q)]) (h1 := h) rfl ?_
      refine RP.ast (i := 17) (j := i) (x := v.toInt16.toInt32) rfl gh s4 i1 (by show _ < ((60 : Nat) : Int); omega) ?_
      obtain ⟨g1, f1⟩ := setA_s (j := i.toNatClampNeg) (x := v.toInt16.toInt32) gh s4 (i32_ge _) (i32_le _)
      refine RP.ret rfl ⟨rfl, g1, f1, ?_⟩
      unfold cvA
      rw [if_neg (by assumption), if_pos (by assumption)]
  · skip
    have c2 := m_ff m_ne_iff c2
    have c2n := Decidable.of_not_not c2
    refine RP.step (i1 := 7) (L1 := [some (.ref (115 + 2 * q)), some (.int i), some (.int v)]) (st1 := [.int v, .int i, .ref (116 + 2 * q)]) (h1 := h) rfl ?_
    refine RP.step (i1 := 8) (L1 := [some (.ref (115 + 2 * q)), some (.int i), some (.int v)]) (st1 := [.int (v.toInt8.toInt32), .int i, .ref (116 + 2 * q)]) (h1 := h) rfl ?_
    refine RP.step (i1 := 17) (L1 := [some (.ref (115 + 2 * q)), some (.int i), some (.int v)]) (st1 := [.int (v.toInt8.toInt32), .int i, .ref (116 + 2 * q)]) (h1 := h) rfl ?_
    refine RP.ast (i := 17) (j := i) (x := v.toInt8.toInt32) rfl gh s4 i1 (by show _ < ((60 : Nat) : Int); omega) ?_
    obtain ⟨g1, f1⟩ := setA_s (j := i.toNatClampNeg) (x := v.toInt8.toInt32) gh s4 (i32_ge _) (i32_le _)
    refine RP.ret rfl ⟨rfl, g1, f1, ?_⟩
    unfold cvA
    rw [if_pos (by assumption)]
theorem y_keep (s i v : Int32) (a1 : 0 ≤ s.toInt) (a2 : s.toInt ≤ 3) (i1 : 0 ≤ i.toInt) (i2 : i.toInt < 60) (h : MH) (gh : gH HMs h) : RP m_X7_keep 0 (m_ent 4 [.ref 123, .int s, .int i, .int v]) [] h (fun r h1 => r = none ∧ gH HMs h1 ∧ fH HMs h h1 ∧ h1 = setA h 151 (60 * s + i).toNatClampNeg (cvA (aI h 149 s.toNatClampNeg) v)) := by
  have hn := nat_cl a1
  have z0 : (0 : Int32).toInt = 0 := by decide
  have z1 : (1 : Int32).toInt = 1 := by decide
  have z2 : (2 : Int32).toInt = 2 := by decide
  have z3 : (3 : Int32).toInt = 3 := by decide
  have z4 : (4 : Int32).toInt = 4 := by decide
  have z60 : (60 : Int32).toInt = 60 := by decide
  have s148 : HMs[148]? = some (.inl (1, 4, 0, 1, false)) := rfl
  have s149 : HMs[149]? = some (.inl (0, 4, -2147483648, 2147483647, false)) := rfl
  have s150 : HMs[150]? = some (.inl (0, 4, 0, 60, false)) := rfl
  have s151 : HMs[151]? = some (.inl (0, 240, -2147483648, 2147483647, false)) := rfl
  have e1 : (60 * s).toInt = 60 * s.toInt := i32_mulc z60 (by omega) (by omega)
  have e2 : (60 * s + i).toInt = 60 * s.toInt + i.toInt := (i32_add (by omega) (by omega)).trans (by omega)
  refine RP.step (i1 := 1) (L1 := [some (.ref 123), some (.int s), some (.int i), some (.int v)]) (st1 := [.ref 123]) (h1 := h) rfl ?_
  refine RP.getR (i := 1) rfl gh rfl ?_
  refine RP.step (i1 := 3) (L1 := [some (.ref 123), some (.int s), some (.int i), some (.int v)]) (st1 := [.int 60, .ref 151]) (h1 := h) rfl ?_
  refine RP.step (i1 := 4) (L1 := [some (.ref 123), some (.int s), some (.int i), some (.int v)]) (st1 := [.int s, .int 60, .ref 151]) (h1 := h) rfl ?_
  refine RP.step (i1 := 5) (L1 := [some (.ref 123), some (.int s), some (.int i), some (.int v)]) (st1 := [.int (60 * s), .ref 151]) (h1 := h) rfl ?_
  refine RP.step (i1 := 6) (L1 := [some (.ref 123), some (.int s), some (.int i), some (.int v)]) (st1 := [.int i, .int (60 * s), .ref 151]) (h1 := h) rfl ?_
  refine RP.step (i1 := 7) (L1 := [some (.ref 123), some (.int s), some (.int i), some (.int v)]) (st1 := [.int ((60 * s) + i), .ref 151]) (h1 := h) rfl ?_
  refine RP.step (i1 := 8) (L1 := [some (.ref 123), some (.int s), some (.int i), some (.int v)]) (st1 := [.ref 123, .int ((60 * s) + i), .ref 151]) (h1 := h) rfl ?_
  refine RP.getR (i := 8) rfl gh rfl ?_
  refine RP.step (i1 := 10) (L1 := [some (.ref 123), some (.int s), some (.int i), some (.int v)]) (st1 := [.int s, .ref 149, .int ((60 * s) + i), .ref 151]) (h1 := h) rfl ?_
  refine RP.ald (i := 10) (t := 0) (j := s) rfl (Or.inl rfl) gh s149 a1 (by show _ < ((4 : Nat) : Int); omega) (fun b11 b12 => ?_)
  refine RP.ifc (x := aI h 149 s.toNatClampNeg) rfl (fun c2 => ?_) (fun c2 => ?_)
  · skip
    have c2 := m_ne_iff.mp c2
    refine RP.step (i1 := 16) (L1 := [some (.ref 123), some (.int s), some (.int i), some (.int v)]) (st1 := [.ref 123, .int ((60 * s) + i), .ref 151]) (h1 := h) rfl ?_
    refine RP.getR (i := 16) rfl gh rfl ?_
    refine RP.step (i1 := 18) (L1 := [some (.ref 123), some (.int s), some (.int i), some (.int v)]) (st1 := [.int s, .ref 149, .int ((60 * s) + i), .ref 151]) (h1 := h) rfl ?_
    refine RP.ald (i := 18) (t := 0) (j := s) rfl (Or.inl rfl) gh s149 a1 (by show _ < ((4 : Nat) : Int); omega) (fun b31 b32 => ?_)
    refine RP.step (i1 := 20) (L1 := [some (.ref 123), some (.int s), some (.int i), some (.int v)]) (st1 := [.int 1, .int (aI h 149 s.toNatClampNeg), .int ((60 * s) + i), .ref 151]) (h1 := h) rfl ?_
    refine RP.icmp (x := aI h 149 s.toNatClampNeg) (y := 1) rfl (fun c4 => ?_) (fun c4 => ?_)
    · skip
      have c4 := m_ne_iff.mp c4
      refine RP.step (i1 := 25) (L1 := [some (.ref 123), some (.int s), some (.int i), some (.int v)]) (st1 := [.int v, .int ((60 * s) + i), .ref 151]) (h1 := h) rfl ?_
      refine RP.ast (i := 25) (j := 60 * s + i) (x := v) rfl gh s151 (by omega) (by show _ < ((240 : Nat) : Int); omega) ?_
      obtain ⟨g1, f1⟩ := setA_s (j := (60 * s + i).toNatClampNeg) (x := v) gh s151 (i32_ge _) (i32_le _)
      refine RP.ret rfl ⟨rfl, g1, f1, ?_⟩
      unfold cvA
      rw [if_neg (by assumption), if_neg (by assumption)]
    · skip
      have c4 := m_ff m_ne_iff c4
      have c4n := Decidable.of_not_not c4
      refine RP.step (i1 := 22) (L1 := [some (.ref 123), some (.int s), some (.int i), some (.int v)]) (st1 := [.int v, .int ((60 * s) + i), .ref 151]) (h1 := h) rfl ?_
      refine RP.step (i1 := 23) (L1 := [some (.ref 123), some (.int s), some (.int i), some (.int v)]) (st1 := [.int (v.toInt16.toInt32), .int ((60 * s) + i), .ref 151]) (h1 := h) rfl ?_
      refine RP.step (i1 := 25) (L1 := [some (.ref 123), some (.int s), some (.int i), some (.int v)]) (st1 := [.int (v.toInt16.toInt32), .int ((60 * s) + i), .ref 151]) (h1 := h) rfl ?_
      refine RP.ast (i := 25) (j := 60 * s + i) (x := v.toInt16.toInt32) rfl gh s151 (by omega) (by show _ < ((240 : Nat) : Int); omega) ?_
      obtain ⟨g1, f1⟩ := setA_s (j := (60 * s + i).toNatClampNeg) (x := v.toInt16.toInt32) gh s151 (i32_ge _) (i32_le _)
      refine RP.ret rfl ⟨rfl, g1, f1, ?_⟩
      unfold cvA
      rw [if_neg (by assumption), if_pos (by assumption)]
  · skip
    have c2 := m_ff m_ne_iff c2
    have c2n := Decidable.of_not_not c2
    refine RP.step (i1 := 13) (L1 := [some (.ref 123), some (.int s), some (.int i), some (.int v)]) (st1 := [.int v, .int ((60 * s) + i), .ref 151]) (h1 := h) rfl ?_
    refine RP.step (i1 := 14) (L1 := [some (.ref 123), some (.int s), some (.int i), some (.int v)]) (st1 := [.int (v.toInt8.toInt32), .int ((60 * s) + i), .ref 151]) (h1 := h) rfl ?_
    refine RP.step (i1 := 25) (L1 := [some (.ref 123), some (.int s), some (.int i), some (.int v)]) (st1 := [.int (v.toInt8.toInt32), .int ((60 * s) + i), .ref 151]) (h1 := h) rfl ?_
    refine RP.ast (i := 25) (j := 60 * s + i) (x := v.toInt8.toInt32) rfl gh s151 (by omega) (by show _ < ((240 : Nat) : Int); omega) ?_
    obtain ⟨g1, f1⟩ := setA_s (j := (60 * s + i).toNatClampNeg) (x := v.toInt8.toInt32) gh s151 (i32_ge _) (i32_le _)
    refine RP.ret rfl ⟨rfl, g1, f1, ?_⟩
    unfold cvA
    rw [if_pos (by assumption)]
def okP2 (s f : Int32) : Prop := okS s ∧ okF f
theorem fdA_cases (l f z form i : Int32) : fdA l f z form i = 0 ∨ fdA l f z form i = 1 ∨ fdA l f z form i = 2 ∨ fdA l f z form i = 3 := by
  unfold fdA
  split
  · exact Or.inr (Or.inl rfl)
  · split
    · exact Or.inr (Or.inr (Or.inr rfl))
    · split
      · exact Or.inl rfl
      · exact Or.inr (Or.inr (Or.inl rfl))
theorem fdA_0 {l f z form i : Int32} (h : fdA l f z form i = 0) : l = 0 ∧ f = form ∧ 0 ≤ i.toInt ∧ i.toInt < z.toInt := by
  unfold fdA at h
  split at h
  · exact absurd h (by decide)
  · split at h
    · exact absurd h (by decide)
    · split at h
      · rename_i h1 h2 h3
        exact ⟨Decidable.of_not_not h1, Decidable.of_not_not h2, h3.1, h3.2⟩
      · exact absurd h (by decide)
def PuX (s f i v : Int32) (h : MH) (r : Option Value) (h1 : MH) : Prop := gH HCs h1 ∧ fH HCs h h1 ∧ ((¬ okP2 s f ∧ r = some (.int (-2)) ∧ h1 = h) ∨ (okP2 s f ∧ ¬ fdA (lo h s.toNatClampNeg) (fo h s.toNatClampNeg) (si h s.toNatClampNeg) f i = 0 ∧ r = some (.int (-10 - fdA (lo h s.toNatClampNeg) (fo h s.toNatClampNeg) (si h s.toNatClampNeg) f i)) ∧ h1 = setF h 0 4 (fdA (lo h s.toNatClampNeg) (fo h s.toNatClampNeg) (si h s.toNatClampNeg) f i)) ∨ (okP2 s f ∧ fdA (lo h s.toNatClampNeg) (fo h s.toNatClampNeg) (si h s.toNatClampNeg) f i = 0 ∧ r = some (.int 1) ∧ h1 = setA h (116 + 2 * s.toNatClampNeg) i.toNatClampNeg (cvA (fo h s.toNatClampNeg) v)))
def PuY (s f i v : Int32) (h : MH) (r : Option Value) (h1 : MH) : Prop := gH HMs h1 ∧ fH HMs h h1 ∧ ((¬ okP2 s f ∧ r = some (.int (-2)) ∧ h1 = h) ∨ (okP2 s f ∧ ¬ lkA (aI h 148 s.toNatClampNeg) (aI h 149 s.toNatClampNeg) (aI h 150 s.toNatClampNeg) f i = 0 ∧ r = some (.int (-10 - lkA (aI h 148 s.toNatClampNeg) (aI h 149 s.toNatClampNeg) (aI h 150 s.toNatClampNeg) f i)) ∧ h1 = setF h 123 46 (lkA (aI h 148 s.toNatClampNeg) (aI h 149 s.toNatClampNeg) (aI h 150 s.toNatClampNeg) f i)) ∨ (okP2 s f ∧ lkA (aI h 148 s.toNatClampNeg) (aI h 149 s.toNatClampNeg) (aI h 150 s.toNatClampNeg) f i = 0 ∧ r = some (.int 1) ∧ h1 = setA h 151 (60 * s + i).toNatClampNeg (cvA (aI h 149 s.toNatClampNeg) v)))
theorem x_putE (s f i v : Int32) (h : MH) (gh : gH HCs h) : RP m_X6_put 0 (m_ent 6 [.ref 0, .int s, .int f, .int i, .int v]) [] h (PuX s f i v h) := by
  have z0 : (0 : Int32).toInt = 0 := by decide
  have z1 : (1 : Int32).toInt = 1 := by decide
  have z2 : (2 : Int32).toInt = 2 := by decide
  have z3 : (3 : Int32).toInt = 3 := by decide
  have z4 : (4 : Int32).toInt = 4 := by decide
  have z60 : (60 : Int32).toInt = 60 := by decide
  refine RP.step (i1 := 1) (L1 := [some (.ref 0), some (.int s), some (.int f), some (.int i), some (.int v), none]) (st1 := [.int s]) (h1 := h) rfl ?_
  refine RP.step (i1 := 2) (L1 := [some (.ref 0), some (.int s), some (.int f), some (.int i), some (.int v), none]) (st1 := [.int 4, .int s]) (h1 := h) rfl ?_
  refine c_isBelow (v := s) (n := 4) rfl (fun c1a c1b => ?_) (fun c1 => ?_)
  · skip
    rw [z4] at c1b
    obtain ⟨S1, S2, S3⟩ := sh_ix c1a c1b
    obtain ⟨Sf0, Sf1, Sf2, Sf3, Sf4, Sf5⟩ := sh_f s.toNatClampNeg S3
    have hok : okS s := ⟨c1a, by omega⟩
    refine RP.step (i1 := 4) (L1 := [some (.ref 0), some (.int s), some (.int f), some (.int i), some (.int v), none]) (st1 := []) (h1 := h) rfl ?_
    refine RP.step (i1 := 5) (L1 := [some (.ref 0), some (.int s), some (.int f), some (.int i), some (.int v), none]) (st1 := [.int f]) (h1 := h) rfl ?_
    refine RP.step (i1 := 6) (L1 := [some (.ref 0), some (.int s), some (.int f), some (.int i), some (.int v), none]) (st1 := [.int 3, .int f]) (h1 := h) rfl ?_
    refine c_isBelow (v := f) (n := 3) rfl (fun c3a c3b => ?_) (fun c3 => ?_)
    · skip
      rw [z3] at c3b
      have hokF : okF f := ⟨c3a, by omega⟩
      refine RP.step (i1 := 10) (L1 := [some (.ref 0), some (.int s), some (.int f), some (.int i), some (.int v), none]) (st1 := []) (h1 := h) rfl ?_
      refine RP.step (i1 := 11) (L1 := [some (.ref 0), some (.int s), some (.int f), some (.int i), some (.int v), none]) (st1 := [.ref 0]) (h1 := h) rfl ?_
      refine RP.getR (i := 11) rfl gh rfl ?_
      refine RP.step (i1 := 13) (L1 := [some (.ref 0), some (.int s), some (.int f), some (.int i), some (.int v), none]) (st1 := [.int s, .ref 9]) (h1 := h) rfl ?_
      refine RP.aald (i := 13) rfl gh rfl rfl S1 S2 ?_
      show RP m_X6_put 14 [some (.ref 0), some (.int s), some (.int f), some (.int i), some (.int v), none] [.ref (115 + 2 * s.toNatClampNeg)] h _
      refine RP.step (i1 := 15) (L1 := [some (.ref 0), some (.int s), some (.int f), some (.int i), some (.int v), none]) (st1 := [.int f, .ref (115 + 2 * s.toNatClampNeg)]) (h1 := h) rfl ?_
      refine RP.step (i1 := 16) (L1 := [some (.ref 0), some (.int s), some (.int f), some (.int i), some (.int v), none]) (st1 := [.int i, .int f, .ref (115 + 2 * s.toNatClampNeg)]) (h1 := h) rfl ?_
      obtain ⟨vs, hx⟩ := ob_sp gh Sf5
      refine RP.call (M1 := m_X3_findingOf) (cv_step rfl rfl hx rfl rfl) rfl rfl (x_findingOf s.toNatClampNeg S3 f i h gh) (fun r h5 w => ?_)
      obtain ⟨e0, rfl⟩ := w
      rw [e0]
      refine RP.step (i1 := 18) (L1 := [some (.ref 0), some (.int s), some (.int f), some (.int i), some (.int v), some (.int (fdA (lo h s.toNatClampNeg) (fo h s.toNatClampNeg) (si h s.toNatClampNeg) f i))]) (st1 := []) (h1 := h) rfl ?_
      refine RP.step (i1 := 19) (L1 := [some (.ref 0), some (.int s), some (.int f), some (.int i), some (.int v), some (.int (fdA (lo h s.toNatClampNeg) (fo h s.toNatClampNeg) (si h s.toNatClampNeg) f i))]) (st1 := [.int (fdA (lo h s.toNatClampNeg) (fo h s.toNatClampNeg) (si h s.toNatClampNeg) f i)]) (h1 := h) rfl ?_
      refine RP.ifc (x := fdA (lo h s.toNatClampNeg) (fo h s.toNatClampNeg) (si h s.toNatClampNeg) f i) rfl (fun c5 => ?_) (fun c5 => ?_)
      · skip
        have c5 := m_eq_iff.mp c5
        have c5n : ¬ ¬ fdA (lo h s.toNatClampNeg) (fo h s.toNatClampNeg) (si h s.toNatClampNeg) f i = 0 := fun w => w c5
        refine RP.step (i1 := 25) (L1 := [some (.ref 0), some (.int s), some (.int f), some (.int i), some (.int v), some (.int (fdA (lo h s.toNatClampNeg) (fo h s.toNatClampNeg) (si h s.toNatClampNeg) f i))]) (st1 := [.ref 0]) (h1 := h) rfl ?_
        refine RP.getR (i := 25) rfl gh rfl ?_
        refine RP.step (i1 := 27) (L1 := [some (.ref 0), some (.int s), some (.int f), some (.int i), some (.int v), some (.int (fdA (lo h s.toNatClampNeg) (fo h s.toNatClampNeg) (si h s.toNatClampNeg) f i))]) (st1 := [.int s, .ref 9]) (h1 := h) rfl ?_
        refine RP.aald (i := 27) rfl gh rfl rfl S1 S2 ?_
        show RP m_X6_put 28 [some (.ref 0), some (.int s), some (.int f), some (.int i), some (.int v), some (.int (fdA (lo h s.toNatClampNeg) (fo h s.toNatClampNeg) (si h s.toNatClampNeg) f i))] [.ref (115 + 2 * s.toNatClampNeg)] h _
        refine RP.step (i1 := 29) (L1 := [some (.ref 0), some (.int s), some (.int f), some (.int i), some (.int v), some (.int (fdA (lo h s.toNatClampNeg) (fo h s.toNatClampNeg) (si h s.toNatClampNeg) f i))]) (st1 := [.int i, .ref (115 + 2 * s.toNatClampNeg)]) (h1 := h) rfl ?_
        refine RP.step (i1 := 30) (L1 := [some (.ref 0), some (.int s), some (.int f), some (.int i), some (.int v), some (.int (fdA (lo h s.toNatClampNeg) (fo h s.toNatClampNeg) (si h s.toNatClampNeg) f i))]) (st1 := [.int v, .int i, .ref (115 + 2 * s.toNatClampNeg)]) (h1 := h) rfl ?_
        obtain ⟨-, -, -, zz1, zz2⟩ := fI_sp gh Sf3
        obtain ⟨-, -, i1, i2⟩ := fdA_0 (by assumption : fdA (lo h s.toNatClampNeg) (fo h s.toNatClampNeg) (si h s.toNatClampNeg) f i = 0)
        obtain ⟨vs2, hx2⟩ := ob_sp gh Sf5
        refine RP.call (M1 := m_X3_keep) (cv_step rfl rfl hx2 rfl rfl) rfl rfl (x_keep s.toNatClampNeg S3 i v i1 (by have : (si h s.toNatClampNeg).toInt ≤ 60 := zz2; omega) h gh) (fun r h5 w => ?_)
        obtain ⟨rfl, g5, f5, e5⟩ := w
        refine RP.step (i1 := 32) (L1 := [some (.ref 0), some (.int s), some (.int f), some (.int i), some (.int v), some (.int (fdA (lo h s.toNatClampNeg) (fo h s.toNatClampNeg) (si h s.toNatClampNeg) f i))]) (st1 := [.int 1]) (h1 := h5) rfl ?_
        exact RP.ret rfl ⟨g5, f5, Or.inr (Or.inr ⟨⟨hok, hokF⟩, by assumption, rfl, e5⟩)⟩
      · skip
        have c5 := m_ff m_eq_iff c5
        refine RP.step (i1 := 21) (L1 := [some (.ref 0), some (.int s), some (.int f), some (.int i), some (.int v), some (.int (fdA (lo h s.toNatClampNeg) (fo h s.toNatClampNeg) (si h s.toNatClampNeg) f i))]) (st1 := [.ref 0]) (h1 := h) rfl ?_
        refine RP.step (i1 := 22) (L1 := [some (.ref 0), some (.int s), some (.int f), some (.int i), some (.int v), some (.int (fdA (lo h s.toNatClampNeg) (fo h s.toNatClampNeg) (si h s.toNatClampNeg) f i))]) (st1 := [.int (fdA (lo h s.toNatClampNeg) (fo h s.toNatClampNeg) (si h s.toNatClampNeg) f i), .ref 0]) (h1 := h) rfl ?_
        refine c_find (v := fdA (lo h s.toNatClampNeg) (fo h s.toNatClampNeg) (si h s.toNatClampNeg) f i) rfl rfl rfl rfl rfl gh (fun g9 t9 => ?_)
        exact RP.ret rfl ⟨g9, t9, Or.inr (Or.inl ⟨⟨hok, hokF⟩, by assumption, rfl, rfl⟩)⟩
    · skip
      rw [z3] at c3
      refine RP.step (i1 := 8) (L1 := [some (.ref 0), some (.int s), some (.int f), some (.int i), some (.int v), none]) (st1 := []) (h1 := h) rfl ?_
      refine RP.step (i1 := 9) (L1 := [some (.ref 0), some (.int s), some (.int f), some (.int i), some (.int v), none]) (st1 := [.int (-2)]) (h1 := h) rfl ?_
      exact RP.ret rfl ⟨gh, fH.rf _ _, Or.inl ⟨fun w => c3 ⟨w.2.1, by have := w.2.2; omega⟩, rfl, rfl⟩⟩
  · skip
    rw [z4] at c1
    refine RP.step (i1 := 8) (L1 := [some (.ref 0), some (.int s), some (.int f), some (.int i), some (.int v), none]) (st1 := []) (h1 := h) rfl ?_
    refine RP.step (i1 := 9) (L1 := [some (.ref 0), some (.int s), some (.int f), some (.int i), some (.int v), none]) (st1 := [.int (-2)]) (h1 := h) rfl ?_
    exact RP.ret rfl ⟨gh, fH.rf _ _, Or.inl ⟨fun w => c1 ⟨w.1.1, by have := w.1.2; omega⟩, rfl, rfl⟩⟩
theorem y_putE (s f i v : Int32) (h : MH) (gh : gH HMs h) : RP m_X7_put 0 (m_ent 6 [.ref 123, .int s, .int f, .int i, .int v]) [] h (PuY s f i v h) := by
  have z0 : (0 : Int32).toInt = 0 := by decide
  have z1 : (1 : Int32).toInt = 1 := by decide
  have z2 : (2 : Int32).toInt = 2 := by decide
  have z3 : (3 : Int32).toInt = 3 := by decide
  have z4 : (4 : Int32).toInt = 4 := by decide
  have z60 : (60 : Int32).toInt = 60 := by decide
  have s148 : HMs[148]? = some (.inl (1, 4, 0, 1, false)) := rfl
  have s149 : HMs[149]? = some (.inl (0, 4, -2147483648, 2147483647, false)) := rfl
  have s150 : HMs[150]? = some (.inl (0, 4, 0, 60, false)) := rfl
  have s151 : HMs[151]? = some (.inl (0, 240, -2147483648, 2147483647, false)) := rfl
  refine RP.step (i1 := 1) (L1 := [some (.ref 123), some (.int s), some (.int f), some (.int i), some (.int v), none]) (st1 := [.int s]) (h1 := h) rfl ?_
  refine c_isSheet (v := s) rfl (fun c1a c1b => ?_) (fun c1 => ?_)
  · skip
    have hok : okS s := ⟨c1a, c1b⟩
    have hn := nat_cl c1a
    refine RP.step (i1 := 3) (L1 := [some (.ref 123), some (.int s), some (.int f), some (.int i), some (.int v), none]) (st1 := []) (h1 := h) rfl ?_
    refine RP.step (i1 := 4) (L1 := [some (.ref 123), some (.int s), some (.int f), some (.int i), some (.int v), none]) (st1 := [.int f]) (h1 := h) rfl ?_
    refine RP.step (i1 := 5) (L1 := [some (.ref 123), some (.int s), some (.int f), some (.int i), some (.int v), none]) (st1 := [.int 0, .int f]) (h1 := h) rfl ?_
    refine RP.step (i1 := 6) (L1 := [some (.ref 123), some (.int s), some (.int f), some (.int i), some (.int v), none]) (st1 := [.int 2, .int 0, .int f]) (h1 := h) rfl ?_
    refine c_in (v := f) (a := 0) (b := 2) rfl (fun c3a c3b => ?_) (fun c3 => ?_)
    · skip
      have hokF : okF f := ⟨by omega, by omega⟩
      refine RP.step (i1 := 10) (L1 := [some (.ref 123), some (.int s), some (.int f), some (.int i), some (.int v), none]) (st1 := []) (h1 := h) rfl ?_
      refine RP.step (i1 := 11) (L1 := [some (.ref 123), some (.int s), some (.int f), some (.int i), some (.int v), none]) (st1 := [.ref 123]) (h1 := h) rfl ?_
      refine RP.step (i1 := 12) (L1 := [some (.ref 123), some (.int s), some (.int f), some (.int i), some (.int v), none]) (st1 := [.int s, .ref 123]) (h1 := h) rfl ?_
      refine RP.step (i1 := 13) (L1 := [some (.ref 123), some (.int s), some (.int f), some (.int i), some (.int v), none]) (st1 := [.int f, .int s, .ref 123]) (h1 := h) rfl ?_
      refine RP.step (i1 := 14) (L1 := [some (.ref 123), some (.int s), some (.int f), some (.int i), some (.int v), none]) (st1 := [.int i, .int f, .int s, .ref 123]) (h1 := h) rfl ?_
      obtain ⟨vs, hx⟩ := ob_sp (a := 123) (ci := 7) gh rfl
      refine RP.call (M1 := m_X7_lacks) (cv_step rfl rfl hx rfl rfl) rfl rfl (y_lacks s f i c1a c1b h gh) (fun r h5 w => ?_)
      obtain ⟨e0, rfl⟩ := w
      rw [e0]
      refine RP.step (i1 := 16) (L1 := [some (.ref 123), some (.int s), some (.int f), some (.int i), some (.int v), some (.int (lkA (aI h 148 s.toNatClampNeg) (aI h 149 s.toNatClampNeg) (aI h 150 s.toNatClampNeg) f i))]) (st1 := []) (h1 := h) rfl ?_
      refine RP.step (i1 := 17) (L1 := [some (.ref 123), some (.int s), some (.int f), some (.int i), some (.int v), some (.int (lkA (aI h 148 s.toNatClampNeg) (aI h 149 s.toNatClampNeg) (aI h 150 s.toNatClampNeg) f i))]) (st1 := [.int (lkA (aI h 148 s.toNatClampNeg) (aI h 149 s.toNatClampNeg) (aI h 150 s.toNatClampNeg) f i)]) (h1 := h) rfl ?_
      refine RP.ifc (x := lkA (aI h 148 s.toNatClampNeg) (aI h 149 s.toNatClampNeg) (aI h 150 s.toNatClampNeg) f i) rfl (fun c5 => ?_) (fun c5 => ?_)
      · skip
        have c5 := m_le_iff.mp c5
        refine RP.step (i1 := 23) (L1 := [some (.ref 123), some (.int s), some (.int f), some (.int i), some (.int v), some (.int (lkA (aI h 148 s.toNatClampNeg) (aI h 149 s.toNatClampNeg) (aI h 150 s.toNatClampNeg) f i))]) (st1 := [.ref 123]) (h1 := h) rfl ?_
        refine RP.step (i1 := 24) (L1 := [some (.ref 123), some (.int s), some (.int f), some (.int i), some (.int v), some (.int (lkA (aI h 148 s.toNatClampNeg) (aI h 149 s.toNatClampNeg) (aI h 150 s.toNatClampNeg) f i))]) (st1 := [.int s, .ref 123]) (h1 := h) rfl ?_
        refine RP.step (i1 := 25) (L1 := [some (.ref 123), some (.int s), some (.int f), some (.int i), some (.int v), some (.int (lkA (aI h 148 s.toNatClampNeg) (aI h 149 s.toNatClampNeg) (aI h 150 s.toNatClampNeg) f i))]) (st1 := [.int i, .int s, .ref 123]) (h1 := h) rfl ?_
        refine RP.step (i1 := 26) (L1 := [some (.ref 123), some (.int s), some (.int f), some (.int i), some (.int v), some (.int (lkA (aI h 148 s.toNatClampNeg) (aI h 149 s.toNatClampNeg) (aI h 150 s.toNatClampNeg) f i))]) (st1 := [.int v, .int i, .int s, .ref 123]) (h1 := h) rfl ?_
        have hz : lkA (aI h 148 s.toNatClampNeg) (aI h 149 s.toNatClampNeg) (aI h 150 s.toNatClampNeg) f i = 0 := by
          rcases fdA_cases (if aI h 148 s.toNatClampNeg = 0 then 1 else 0) (aI h 149 s.toNatClampNeg) (aI h 150 s.toNatClampNeg) f i with e | e | e | e
          · exact e
          · have e3 : (lkA (aI h 148 s.toNatClampNeg) (aI h 149 s.toNatClampNeg) (aI h 150 s.toNatClampNeg) f i).toInt = 1 := (congrArg Int32.toInt e).trans z1
            omega
          · have e3 : (lkA (aI h 148 s.toNatClampNeg) (aI h 149 s.toNatClampNeg) (aI h 150 s.toNatClampNeg) f i).toInt = 2 := (congrArg Int32.toInt e).trans z2
            omega
          · have e3 : (lkA (aI h 148 s.toNatClampNeg) (aI h 149 s.toNatClampNeg) (aI h 150 s.toNatClampNeg) f i).toInt = 3 := (congrArg Int32.toInt e).trans z3
            omega
        obtain ⟨-, -, -, -, zz1, zz2⟩ := aI_sp gh s150 (show s.toNatClampNeg < 4 by omega)
        obtain ⟨-, -, i1, i2⟩ := fdA_0 hz
        obtain ⟨vs2, hx2⟩ := ob_sp (a := 123) (ci := 7) gh rfl
        refine RP.call (M1 := m_X7_keep) (cv_step rfl rfl hx2 rfl rfl) rfl rfl (y_keep s i v c1a c1b i1 (by omega) h gh) (fun r h5 w => ?_)
        obtain ⟨rfl, g5, f5, e5⟩ := w
        refine RP.step (i1 := 28) (L1 := [some (.ref 123), some (.int s), some (.int f), some (.int i), some (.int v), some (.int (lkA (aI h 148 s.toNatClampNeg) (aI h 149 s.toNatClampNeg) (aI h 150 s.toNatClampNeg) f i))]) (st1 := [.int 1]) (h1 := h5) rfl ?_
        exact RP.ret rfl ⟨g5, f5, Or.inr (Or.inr ⟨⟨hok, hokF⟩, hz, rfl, e5⟩)⟩
      · skip
        have c5 := m_ff m_le_iff c5
        refine RP.step (i1 := 19) (L1 := [some (.ref 123), some (.int s), some (.int f), some (.int i), some (.int v), some (.int (lkA (aI h 148 s.toNatClampNeg) (aI h 149 s.toNatClampNeg) (aI h 150 s.toNatClampNeg) f i))]) (st1 := [.ref 123]) (h1 := h) rfl ?_
        refine RP.step (i1 := 20) (L1 := [some (.ref 123), some (.int s), some (.int f), some (.int i), some (.int v), some (.int (lkA (aI h 148 s.toNatClampNeg) (aI h 149 s.toNatClampNeg) (aI h 150 s.toNatClampNeg) f i))]) (st1 := [.int (lkA (aI h 148 s.toNatClampNeg) (aI h 149 s.toNatClampNeg) (aI h 150 s.toNatClampNeg) f i), .ref 123]) (h1 := h) rfl ?_
        refine c_meets (v := lkA (aI h 148 s.toNatClampNeg) (aI h 149 s.toNatClampNeg) (aI h 150 s.toNatClampNeg) f i) rfl rfl rfl rfl rfl gh (fun g9 t9 => ?_)
        refine RP.ret rfl ⟨g9, t9, Or.inr (Or.inl ⟨⟨hok, hokF⟩, fun e => ?_, rfl, rfl⟩)⟩
        have e3 := congrArg Int32.toInt e
        omega
    · skip
      refine RP.step (i1 := 8) (L1 := [some (.ref 123), some (.int s), some (.int f), some (.int i), some (.int v), none]) (st1 := []) (h1 := h) rfl ?_
      refine RP.step (i1 := 9) (L1 := [some (.ref 123), some (.int s), some (.int f), some (.int i), some (.int v), none]) (st1 := [.int (-2)]) (h1 := h) rfl ?_
      exact RP.ret rfl ⟨gh, fH.rf _ _, Or.inl ⟨fun w => c3 ⟨by have := w.2.1; omega, by have := w.2.2; omega⟩, rfl, rfl⟩⟩
  · skip
    refine RP.step (i1 := 8) (L1 := [some (.ref 123), some (.int s), some (.int f), some (.int i), some (.int v), none]) (st1 := []) (h1 := h) rfl ?_
    refine RP.step (i1 := 9) (L1 := [some (.ref 123), some (.int s), some (.int f), some (.int i), some (.int v), none]) (st1 := [.int (-2)]) (h1 := h) rfl ?_
    exact RP.ret rfl ⟨gh, fH.rf _ _, Or.inl ⟨fun w => c1 w.1, rfl, rfl⟩⟩
