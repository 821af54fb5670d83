/-! write: the answer exact (printed by wip/p1/writee.py) -/
theorem x_told (h : MH) (gh : gH HCs h) : RP m_X6_toldTrip 0 (m_ent 1 [.ref 0]) [] h (fun r h1 => (r = some (.ref 15) ∧ gH HCs h1 ∧ fH HCs h h1) ∧ FR bad32 true h h1) := by
  have k : RP m_X6_toldTrip 0 (m_ent 1 [.ref 0]) [] h (fun r h1 => r = some (.ref 15) ∧ gH HCs h1 ∧ fH HCs h h1) := by
    obtain ⟨d1, r, h1, alt, d2, d3, d4, d5, d6, -⟩ := p_sc36.1 m_X6_toldTrip rfl [.ref 0] h ⟨⟨0, rfl, by decide⟩, trivial⟩ gh
    refine ⟨r, h1, d3, ?_, d5, d6⟩
    have e : alt = (some (.inr (.inl [15])), []) := by simpa [sc36] using d2
    subst e
    rcases r with _ | r
    · exact d4.elim
    · obtain ⟨z, rfl, hz⟩ := d4
      have hz : z = 15 := by simpa using hz
      rw [hz]
  exact RP.fr (ms := [20, 21, 22, 23, 24, 25, 88, 187]) (y := 88) (by decide +kernel) (by decide) rfl k
def mn24 (z : Int32) : Int32 := if (24 : Int32) < z then 24 else z
theorem mn24_b {z : Int32} (z1 : 0 ≤ z.toInt) : 0 ≤ (mn24 z).toInt ∧ (mn24 z).toInt ≤ 24 ∧ (mn24 z).toInt ≤ z.toInt ∧ ((mn24 z).toInt = 24 ∨ (mn24 z).toInt = z.toInt) := by
  have z24 : (24 : Int32).toInt = 24 := by decide
  unfold mn24
  split
  · rename_i h
    have := Int32.lt_iff_toInt_lt.mp h
    omega
  · rename_i h
    have : ¬ (24 : Int32).toInt < z.toInt := fun q => h (Int32.lt_iff_toInt_lt.mpr q)
    omega
def ok2 (v : Int32) : Prop := 0 ≤ v.toInt ∧ v.toInt ≤ 1
def WrX (a s : Int32) (h : MH) (r : Option Value) (h1 : MH) : Prop := gH HCs h1 ∧ fH HCs h h1 ∧ ((¬ (ok2 a ∧ okS s) ∧ r = some (.int (-2))) ∨ ((ok2 a ∧ okS s) ∧ ¬ lo h s.toNatClampNeg = 0 ∧ r = some (.int (-11))) ∨ ((ok2 a ∧ okS s) ∧ lo h s.toNatClampNeg = 0 ∧ r = some (.int (mn24 (si h s.toNatClampNeg)))))
def WrY (a s : Int32) (h : MH) (r : Option Value) (h1 : MH) : Prop := gH HMs h1 ∧ fH HMs h h1 ∧ smY h h1 ∧ ((¬ (ok2 a ∧ okS s) ∧ r = some (.int (-2))) ∨ ((ok2 a ∧ okS s) ∧ aI h 148 s.toNatClampNeg = 0 ∧ r = some (.int (-11))) ∨ ((ok2 a ∧ okS s) ∧ ¬ aI h 148 s.toNatClampNeg = 0 ∧ r = some (.int (mn24 (aI h 150 s.toNatClampNeg)))))
theorem x_write_l (a s m : Int32) (q : Nat) (hq : q < 4) (m1 : 0 ≤ m.toInt) (m2 : m.toInt ≤ 24) : ∀ (N : Nat) (k : Int32) (h : MH), gH HCs h → 0 ≤ k.toInt → k.toInt ≤ m.toInt → m.toInt - k.toInt < N → RP m_X6_write 32 [some (.ref 0), some (.int a), some (.int s), some (.ref (115 + 2 * q)), some (.ref 15), some (.int m), some (.int k)] [] h (fun r h1 => gH HCs h1 ∧ fH HCs h h1 ∧ r = some (.int m)) := by
  obtain ⟨s0, s1, s2, s3, s4, s5⟩ := sh_f q hq
  have z1 : (1 : Int32).toInt = 1 := by decide
  intro N
  induction N with
  | zero => intro k h _ _ _ w; exact absurd w (by omega)
  | succ N ih =>
    intro k h gh k1 k2 hN
    have e4 : k.toInt < m.toInt → (k + 1).toInt = k.toInt + 1 := fun _ => (i32_add (by omega) (by omega)).trans (by omega)
    refine RP.step (i1 := 33) (L1 := [some (.ref 0), some (.int a), some (.int s), some (.ref (115 + 2 * q)), some (.ref 15), some (.int m), some (.int k)]) (st1 := [.int k]) (h1 := h) rfl ?_
    refine RP.step (i1 := 34) (L1 := [some (.ref 0), some (.int a), some (.int s), some (.ref (115 + 2 * q)), some (.ref 15), some (.int m), some (.int k)]) (st1 := [.int m, .int k]) (h1 := h) rfl ?_
    refine RP.icmp (x := k) (y := m) rfl (fun c1 => ?_) (fun c1 => ?_)
    · skip
      have c1 := m_ge_iff.mp c1
      refine RP.step (i1 := 52) (L1 := [some (.ref 0), some (.int a), some (.int s), some (.ref (115 + 2 * q)), some (.ref 15), some (.int m), some (.int k)]) (st1 := [.int m]) (h1 := h) rfl ?_
      exact RP.ret rfl ⟨gh, fH.rf _ _, rfl⟩
    · skip
      have c1 := m_ff m_ge_iff c1
      refine RP.step (i1 := 36) (L1 := [some (.ref 0), some (.int a), some (.int s), some (.ref (115 + 2 * q)), some (.ref 15), some (.int m), some (.int k)]) (st1 := [.ref (115 + 2 * q)]) (h1 := h) rfl ?_
      refine RP.step (i1 := 37) (L1 := [some (.ref 0), some (.int a), some (.int s), some (.ref (115 + 2 * q)), some (.ref 15), some (.int m), some (.int k)]) (st1 := [.int k, .ref (115 + 2 * q)]) (h1 := h) rfl ?_
      refine RP.step (i1 := 38) (L1 := [some (.ref 0), some (.int a), some (.int s), some (.ref (115 + 2 * q)), some (.ref 15), some (.int m), some (.int k)]) (st1 := [.int a, .int k, .ref (115 + 2 * q)]) (h1 := h) rfl ?_
      refine RP.ifc (x := a) rfl (fun c2 => ?_) (fun c2 => ?_)
      · skip
        have c2 := m_ne_iff.mp c2
        refine RP.step (i1 := 45) (L1 := [some (.ref 0), some (.int a), some (.int s), some (.ref (115 + 2 * q)), some (.ref 15), some (.int m), some (.int k)]) (st1 := [.ref 15, .int k, .ref (115 + 2 * q)]) (h1 := h) rfl ?_
        refine RP.getR (i := 45) rfl gh rfl ?_
        refine RP.step (i1 := 47) (L1 := [some (.ref 0), some (.int a), some (.int s), some (.ref (115 + 2 * q)), some (.ref 15), some (.int m), some (.int k)]) (st1 := [.int k, .ref 17, .int k, .ref (115 + 2 * q)]) (h1 := h) rfl ?_
        refine RP.ald (i := 47) (t := 0) (j := k) rfl (Or.inl rfl) gh (show HCs[17]? = some (.inl (0, 24, 0, 20, false)) from rfl) k1 (by show _ < ((24 : Nat) : Int); omega) (fun b31 b32 => ?_)
        obtain ⟨vs2, hx2⟩ := ob_sp gh s5
        refine RP.call (M1 := m_X3_keep) (cv_step rfl rfl hx2 rfl rfl) rfl rfl (x_keep q hq k (aI h 17 k.toNatClampNeg) k1 (by omega) h gh) (fun r h5 w => ?_)
        obtain ⟨rfl, g5, f5, -⟩ := w
        refine RP.step (i1 := 50) (L1 := [some (.ref 0), some (.int a), some (.int s), some (.ref (115 + 2 * q)), some (.ref 15), some (.int m), some (.int (k + 1))]) (st1 := []) (h1 := h5) rfl ?_
        refine RP.step (i1 := 32) (L1 := [some (.ref 0), some (.int a), some (.int s), some (.ref (115 + 2 * q)), some (.ref 15), some (.int m), some (.int (k + 1))]) (st1 := []) (h1 := h5) rfl ?_
        have e5 := e4 (by omega)
        exact (ih (k + 1) h5 g5 (by omega) (by omega) (by omega)).mono (fun r h2 q => ⟨q.1, fH.tr g5 f5 q.2.1, q.2.2⟩)
      · skip
        have c2 := m_ff m_ne_iff c2
        have c2n := Decidable.of_not_not c2
        refine RP.step (i1 := 40) (L1 := [some (.ref 0), some (.int a), some (.int s), some (.ref (115 + 2 * q)), some (.ref 15), some (.int m), some (.int k)]) (st1 := [.ref 15, .int k, .ref (115 + 2 * q)]) (h1 := h) rfl ?_
        refine RP.getR (i := 40) rfl gh rfl ?_
        refine RP.step (i1 := 42) (L1 := [some (.ref 0), some (.int a), some (.int s), some (.ref (115 + 2 * q)), some (.ref 15), some (.int m), some (.int k)]) (st1 := [.int k, .ref 16, .int k, .ref (115 + 2 * q)]) (h1 := h) rfl ?_
        refine RP.ald (i := 42) (t := 0) (j := k) rfl (Or.inl rfl) gh (show HCs[16]? = some (.inl (0, 24, -2147483648, 2147483647, false)) from rfl) k1 (by show _ < ((24 : Nat) : Int); omega) (fun b41 b42 => ?_)
        refine RP.step (i1 := 48) (L1 := [some (.ref 0), some (.int a), some (.int s), some (.ref (115 + 2 * q)), some (.ref 15), some (.int m), some (.int k)]) (st1 := [.int (aI h 16 k.toNatClampNeg), .int k, .ref (115 + 2 * q)]) (h1 := h) rfl ?_
        obtain ⟨vs2, hx2⟩ := ob_sp gh s5
        refine RP.call (M1 := m_X3_keep) (cv_step rfl rfl hx2 rfl rfl) rfl rfl (x_keep q hq k (aI h 16 k.toNatClampNeg) k1 (by omega) h gh) (fun r h5 w => ?_)
        obtain ⟨rfl, g5, f5, -⟩ := w
        refine RP.step (i1 := 50) (L1 := [some (.ref 0), some (.int a), some (.int s), some (.ref (115 + 2 * q)), some (.ref 15), some (.int m), some (.int (k + 1))]) (st1 := []) (h1 := h5) rfl ?_
        refine RP.step (i1 := 32) (L1 := [some (.ref 0), some (.int a), some (.int s), some (.ref (115 + 2 * q)), some (.ref 15), some (.int m), some (.int (k + 1))]) (st1 := []) (h1 := h5) rfl ?_
        have e5 := e4 (by omega)
        exact (ih (k + 1) h5 g5 (by omega) (by omega) (by omega)).mono (fun r h2 q => ⟨q.1, fH.tr g5 f5 q.2.1, q.2.2⟩)
theorem x_writeE (a s : Int32) (h : MH) (gh : gH HCs h) : RP m_X6_write 0 (m_ent 7 [.ref 0, .int a, .int s]) [] h (WrX a s h) := by
  have z0 : (0 : Int32).toInt = 0 := by decide
  have z1 : (1 : Int32).toInt = 1 := by decide
  have z2 : (2 : Int32).toInt = 2 := by decide
  have z3 : (3 : Int32).toInt = 3 := by decide
  have z4 : (4 : Int32).toInt = 4 := by decide
  have z60 : (60 : Int32).toInt = 60 := by decide
  refine RP.step (i1 := 1) (L1 := [some (.ref 0), some (.int a), some (.int s), none, none, none, none]) (st1 := [.int a]) (h1 := h) rfl ?_
  refine RP.step (i1 := 2) (L1 := [some (.ref 0), some (.int a), some (.int s), none, none, none, none]) (st1 := [.int 2, .int a]) (h1 := h) rfl ?_
  refine c_isBelow (v := a) (n := 2) rfl (fun c1a c1b => ?_) (fun c1 => ?_)
  · skip
    rw [z2] at c1b
    have hok2 : ok2 a := ⟨c1a, by omega⟩
    refine RP.step (i1 := 4) (L1 := [some (.ref 0), some (.int a), some (.int s), none, none, none, none]) (st1 := []) (h1 := h) rfl ?_
    refine RP.step (i1 := 5) (L1 := [some (.ref 0), some (.int a), some (.int s), none, none, none, none]) (st1 := [.int s]) (h1 := h) rfl ?_
    refine RP.step (i1 := 6) (L1 := [some (.ref 0), some (.int a), some (.int s), none, none, none, none]) (st1 := [.int 4, .int s]) (h1 := h) rfl ?_
    refine c_isBelow (v := s) (n := 4) rfl (fun c3a c3b => ?_) (fun c3 => ?_)
    · skip
      rw [z4] at c3b
      obtain ⟨S1, S2, S3⟩ := sh_ix c3a c3b
      obtain ⟨Sf0, Sf1, Sf2, Sf3, Sf4, Sf5⟩ := sh_f s.toNatClampNeg S3
      have hok : okS s := ⟨c3a, by omega⟩
      refine RP.step (i1 := 10) (L1 := [some (.ref 0), some (.int a), some (.int s), none, none, none, none]) (st1 := []) (h1 := h) rfl ?_
      refine RP.step (i1 := 11) (L1 := [some (.ref 0), some (.int a), some (.int s), none, none, none, none]) (st1 := [.ref 0]) (h1 := h) rfl ?_
      refine RP.getR (i := 11) rfl gh rfl ?_
      refine RP.step (i1 := 13) (L1 := [some (.ref 0), some (.int a), some (.int s), none, none, none, none]) (st1 := [.int s, .ref 9]) (h1 := h) rfl ?_
      refine RP.aald (i := 13) rfl gh rfl rfl S1 S2 ?_
      show RP m_X6_write 14 [some (.ref 0), some (.int a), some (.int s), none, none, none, none] [.ref (115 + 2 * s.toNatClampNeg)] h _
      refine RP.step (i1 := 15) (L1 := [some (.ref 0), some (.int a), some (.int s), some (.ref (115 + 2 * s.toNatClampNeg)), none, none, none]) (st1 := []) (h1 := h) rfl ?_
      refine RP.step (i1 := 16) (L1 := [some (.ref 0), some (.int a), some (.int s), some (.ref (115 + 2 * s.toNatClampNeg)), none, none, none]) (st1 := [.ref (115 + 2 * s.toNatClampNeg)]) (h1 := h) rfl ?_
      refine RP.getI (i := 16) rfl gh Sf1 (fun b51 b52 => ?_)
      show RP m_X6_write 17 [some (.ref 0), some (.int a), some (.int s), some (.ref (115 + 2 * s.toNatClampNeg)), none, none, none] [.int (fI h (115 + 2 * s.toNatClampNeg) 1)] h _
      refine RP.ifc (x := fI h (115 + 2 * s.toNatClampNeg) 1) rfl (fun c6 => ?_) (fun c6 => ?_)
      · skip
        have c6 := m_eq_iff.mp c6
        have c6n : ¬ ¬ fI h (115 + 2 * s.toNatClampNeg) 1 = 0 := fun w => w c6
        refine RP.step (i1 := 23) (L1 := [some (.ref 0), some (.int a), some (.int s), some (.ref (115 + 2 * s.toNatClampNeg)), none, none, none]) (st1 := [.ref 0]) (h1 := h) rfl ?_
        obtain ⟨vs, hx⟩ := ob_sp (a := 0) (ci := 6) gh rfl
        refine RP.call (M1 := m_X6_toldTrip) (cv_step rfl rfl hx rfl rfl) rfl rfl (x_told h gh) (fun r h5 w => ?_)
        obtain ⟨⟨rfl, g5, f5⟩, fr5⟩ := w
        have sm5 := smX_fr gh fr5
        refine RP.step (i1 := 25) (L1 := [some (.ref 0), some (.int a), some (.int s), some (.ref (115 + 2 * s.toNatClampNeg)), some (.ref 15), none, none]) (st1 := []) (h1 := h5) rfl ?_
        refine RP.step (i1 := 26) (L1 := [some (.ref 0), some (.int a), some (.int s), some (.ref (115 + 2 * s.toNatClampNeg)), some (.ref 15), none, none]) (st1 := [.ref (115 + 2 * s.toNatClampNeg)]) (h1 := h5) rfl ?_
        refine RP.getI (i := 26) rfl g5 Sf3 (fun b71 b72 => ?_)
        show RP m_X6_write 27 [some (.ref 0), some (.int a), some (.int s), some (.ref (115 + 2 * s.toNatClampNeg)), some (.ref 15), none, none] [.int (fI h5 (115 + 2 * s.toNatClampNeg) 3)] h5 _
        refine RP.step (i1 := 28) (L1 := [some (.ref 0), some (.int a), some (.int s), some (.ref (115 + 2 * s.toNatClampNeg)), some (.ref 15), none, none]) (st1 := [.int 24, .int (fI h5 (115 + 2 * s.toNatClampNeg) 3)]) (h1 := h5) rfl ?_
        refine RP.step (i1 := 29) (L1 := [some (.ref 0), some (.int a), some (.int s), some (.ref (115 + 2 * s.toNatClampNeg)), some (.ref 15), none, none]) (st1 := [.int (mn24 (si h5 s.toNatClampNeg))]) (h1 := h5) rfl ?_
        refine RP.step (i1 := 30) (L1 := [some (.ref 0), some (.int a), some (.int s), some (.ref (115 + 2 * s.toNatClampNeg)), some (.ref 15), some (.int (mn24 (si h5 s.toNatClampNeg))), none]) (st1 := []) (h1 := h5) rfl ?_
        refine RP.step (i1 := 31) (L1 := [some (.ref 0), some (.int a), some (.int s), some (.ref (115 + 2 * s.toNatClampNeg)), some (.ref 15), some (.int (mn24 (si h5 s.toNatClampNeg))), none]) (st1 := [.int 0]) (h1 := h5) rfl ?_
        refine RP.step (i1 := 32) (L1 := [some (.ref 0), some (.int a), some (.int s), some (.ref (115 + 2 * s.toNatClampNeg)), some (.ref 15), some (.int (mn24 (si h5 s.toNatClampNeg))), some (.int 0)]) (st1 := []) (h1 := h5) rfl ?_
        obtain ⟨-, -, -, y1, y2⟩ := fI_sp g5 Sf3
        obtain ⟨b1, b2, b3, -⟩ := mn24_b (z := si h5 s.toNatClampNeg) y1
        refine (x_write_l a s (mn24 (si h5 s.toNatClampNeg)) s.toNatClampNeg S3 b1 b2 25 0 h5 g5 (by decide) b1 (by show _ - 0 < 25; omega)).mono (fun r h2 w => ⟨w.1, fH.tr g5 f5 w.2.1, Or.inr (Or.inr ⟨⟨hok2, hok⟩, by assumption, ?_⟩)⟩)
        rw [w.2.2, (sm5 _ S3).2.2]
      · skip
        have c6 := m_ff m_eq_iff c6
        refine RP.step (i1 := 19) (L1 := [some (.ref 0), some (.int a), some (.int s), some (.ref (115 + 2 * s.toNatClampNeg)), none, none, none]) (st1 := [.ref 0]) (h1 := h) rfl ?_
        refine RP.step (i1 := 20) (L1 := [some (.ref 0), some (.int a), some (.int s), some (.ref (115 + 2 * s.toNatClampNeg)), none, none, none]) (st1 := [.int 1, .ref 0]) (h1 := h) rfl ?_
        refine c_find (v := 1) rfl rfl rfl rfl rfl gh (fun g9 t9 => ?_)
        exact RP.ret rfl ⟨g9, t9, Or.inr (Or.inl ⟨⟨hok2, hok⟩, by assumption, rfl⟩)⟩
    · skip
      rw [z4] at c3
      refine RP.step (i1 := 8) (L1 := [some (.ref 0), some (.int a), some (.int s), none, none, none, none]) (st1 := []) (h1 := h) rfl ?_
      refine RP.step (i1 := 9) (L1 := [some (.ref 0), some (.int a), some (.int s), none, none, none, none]) (st1 := [.int (-2)]) (h1 := h) rfl ?_
      exact RP.ret rfl ⟨gh, fH.rf _ _, Or.inl ⟨fun w => c3 ⟨w.2.1, by have := w.2.2; omega⟩, rfl⟩⟩
  · skip
    rw [z2] at c1
    refine RP.step (i1 := 8) (L1 := [some (.ref 0), some (.int a), some (.int s), none, none, none, none]) (st1 := []) (h1 := h) rfl ?_
    refine RP.step (i1 := 9) (L1 := [some (.ref 0), some (.int a), some (.int s), none, none, none, none]) (st1 := [.int (-2)]) (h1 := h) rfl ?_
    exact RP.ret rfl ⟨gh, fH.rf _ _, Or.inl ⟨fun w => c1 ⟨w.1.1, by have := w.1.2; omega⟩, rfl⟩⟩
theorem Rn.det {fl : Bool} {xs : List Int32} {M : MM} {i : Nat} {L : ML} {st : List Value} {h : MH} {q q2 : Option Value × MH} (a : Rn fl xs M i L st h q) (b : Rn fl xs M i L st h q2) : q = q2 := by
  obtain ⟨n, a⟩ := a
  obtain ⟨m, b⟩ := b
  have a2 := mrun_mono xs n _ _ _ _ _ _ _ a m
  have b2 := mrun_mono xs m _ _ _ _ _ _ _ b n
  rw [Nat.add_comm m n, a2] at b2
  exact Option.some.inj b2
theorem RP.and {M : MM} {i : Nat} {L : ML} {st : List Value} {h : MH} {P Q : Option Value → MH → Prop} (a : RP M i L st h P) (b : RP M i L st h Q) : RP M i L st h (fun r h1 => P r h1 ∧ Q r h1) := by
  obtain ⟨r, h1, a1, a2⟩ := a
  obtain ⟨r2, h2, b1, b2⟩ := b
  have e := Rn.det a1 b1
  cases e
  exact ⟨r, h1, a1, a2, b2⟩
theorem smY_HM {h h1 : MH} (f : fH HM h h1) (g : gH HM h) (g1 : gH HM h1) : smY h h1 := ⟨cell_fz f g g1 (t := 1) (n := 4) (lo := 0) (hi := 1) rfl, cell_fz f g g1 (t := 0) (n := 4) (lo := -2147483648) (hi := 2147483647) rfl, cell_fz f g g1 (t := 0) (n := 4) (lo := 0) (hi := 60) rfl⟩
theorem y_runs (h : MH) (gh : gH HMs h) : RP m_X7_runsTold 0 (m_ent 1 [.ref 123]) [] h (fun r h1 => (r = none ∧ gH HMs h1 ∧ fH HMs h h1) ∧ smY h h1) := by
  have k : RP m_X7_runsTold 0 (m_ent 1 [.ref 123]) [] h (fun r h1 => r = none ∧ gH HMs h1 ∧ fH HMs h h1) := by
    obtain ⟨d1, r, h1, alt, d2, d3, d4, d5, d6, -⟩ := p_sm34.1 m_X7_runsTold rfl [.ref 123] h ⟨⟨123, rfl, by decide⟩, trivial⟩ gh
    refine ⟨r, h1, d3, ?_, d5, d6⟩
    have e : alt = (none, []) := by simpa [sm34] using d2
    subst e
    rcases r with _ | r
    · rfl
    · exact d4.elim
  have k2 : RP m_X7_runsTold 0 (m_ent 1 [.ref 123]) [] h (fun r h1 => smY h h1) := by
    obtain ⟨d1, r, h1, alt, d2, d3, d4, d5, d6, -⟩ := p_cm32.1 m_X7_runsTold rfl [.ref 123] h ⟨⟨123, rfl, by decide⟩, trivial⟩ (gH.eq eq_HMr gh)
    exact ⟨r, h1, d3, smY_HM d6 (gH.eq eq_HMr gh) d5⟩
  exact RP.and k k2
theorem y_write_l (a s z : Int32) (a1 : 0 ≤ s.toInt) (a2 : s.toInt ≤ 3) (z1 : 0 ≤ z.toInt) (z2' : z.toInt ≤ 60) : ∀ (N : Nat) (k : Int32) (h : MH), gH HMs h → aI h 150 s.toNatClampNeg = z → 0 ≤ k.toInt → k.toInt ≤ (mn24 z).toInt → 24 - k.toInt < N → RP m_X7_write 21 [some (.ref 123), some (.int a), some (.int s), some (.int k)] [] h (fun r h1 => gH HMs h1 ∧ fH HMs h h1 ∧ smY h h1 ∧ r = some (.int (mn24 z))) := by
  have hn := nat_cl a1
  obtain ⟨b1, b2, b3, b4⟩ := mn24_b z1
  have z24 : (24 : Int32).toInt = 24 := by decide
  have z0 : (0 : Int32).toInt = 0 := by decide
  have z1 : (1 : Int32).toInt = 1 := by decide
  have z2 : (2 : Int32).toInt = 2 := by decide
  have z3 : (3 : Int32).toInt = 3 := by decide
  have z4 : (4 : Int32).toInt = 4 := by decide
  have z60 : (60 : Int32).toInt = 60 := by decide
  have s148 : HMs[148]? = some (.inl (1, 4, 0, 1, false)) := rfl
  have s149 : HMs[149]? = some (.inl (0, 4, -2147483648, 2147483647, false)) := rfl
  have s150 : HMs[150]? = some (.inl (0, 4, 0, 60, false)) := rfl
  have s151 : HMs[151]? = some (.inl (0, 240, -2147483648, 2147483647, false)) := rfl
  intro N
  induction N with
  | zero => intro k h _ _ _ _ w; exact absurd w (by omega)
  | succ N ih =>
    intro k h gh hz k1 k2 hN
    have e4 : k.toInt < 24 → (k + 1).toInt = k.toInt + 1 := fun _ => (i32_add (by omega) (by omega)).trans (by omega)
    refine RP.step (i1 := 22) (L1 := [some (.ref 123), some (.int a), some (.int s), some (.int k)]) (st1 := [.int k]) (h1 := h) rfl ?_
    refine RP.step (i1 := 23) (L1 := [some (.ref 123), some (.int a), some (.int s), some (.int k)]) (st1 := [.ref 123, .int k]) (h1 := h) rfl ?_
    refine RP.getR (i := 23) rfl gh rfl ?_
    refine RP.step (i1 := 25) (L1 := [some (.ref 123), some (.int a), some (.int s), some (.int k)]) (st1 := [.int s, .ref 150, .int k]) (h1 := h) rfl ?_
    refine RP.ald (i := 25) (t := 0) (j := s) rfl (Or.inl rfl) gh s150 a1 (by show _ < ((4 : Nat) : Int); omega) (fun b11 b12 => ?_)
    rw [hz]
    refine RP.icmp (x := k) (y := z) rfl (fun c2 => ?_) (fun c2 => ?_)
    · skip
      have c2 := m_ge_iff.mp c2
      refine RP.step (i1 := 48) (L1 := [some (.ref 123), some (.int a), some (.int s), some (.int k)]) (st1 := [.int k]) (h1 := h) rfl ?_
      have ek : k = mn24 z := Int32.toInt_inj.mp (by omega)
      exact RP.ret rfl ⟨gh, fH.rf _ _, smY.rf _, by rw [ek]⟩
    · skip
      have c2 := m_ff m_ge_iff c2
      refine RP.step (i1 := 28) (L1 := [some (.ref 123), some (.int a), some (.int s), some (.int k)]) (st1 := [.int k]) (h1 := h) rfl ?_
      refine RP.step (i1 := 29) (L1 := [some (.ref 123), some (.int a), some (.int s), some (.int k)]) (st1 := [.int 24, .int k]) (h1 := h) rfl ?_
      refine RP.icmp (x := k) (y := 24) rfl (fun c3 => ?_) (fun c3 => ?_)
      · skip
        have c3 := m_ge_iff.mp c3
        refine RP.step (i1 := 48) (L1 := [some (.ref 123), some (.int a), some (.int s), some (.int k)]) (st1 := [.int k]) (h1 := h) rfl ?_
        have ek : k = mn24 z := Int32.toInt_inj.mp (by omega)
        exact RP.ret rfl ⟨gh, fH.rf _ _, smY.rf _, by rw [ek]⟩
      · skip
        have c3 := m_ff m_ge_iff c3
        refine RP.step (i1 := 31) (L1 := [some (.ref 123), some (.int a), some (.int s), some (.int k)]) (st1 := [.ref 123]) (h1 := h) rfl ?_
        refine RP.step (i1 := 32) (L1 := [some (.ref 123), some (.int a), some (.int s), some (.int k)]) (st1 := [.int s, .ref 123]) (h1 := h) rfl ?_
        refine RP.step (i1 := 33) (L1 := [some (.ref 123), some (.int a), some (.int s), some (.int k)]) (st1 := [.int k, .int s, .ref 123]) (h1 := h) rfl ?_
        refine RP.step (i1 := 34) (L1 := [some (.ref 123), some (.int a), some (.int s), some (.int k)]) (st1 := [.int a, .int k, .int s, .ref 123]) (h1 := h) rfl ?_
        refine RP.ifc (x := a) rfl (fun c4 => ?_) (fun c4 => ?_)
        · skip
          have c4 := m_ne_iff.mp c4
          refine RP.step (i1 := 41) (L1 := [some (.ref 123), some (.int a), some (.int s), some (.int k)]) (st1 := [.ref 123, .int k, .int s, .ref 123]) (h1 := h) rfl ?_
          refine RP.getR (i := 41) rfl gh rfl ?_
          refine RP.step (i1 := 43) (L1 := [some (.ref 123), some (.int a), some (.int s), some (.int k)]) (st1 := [.int k, .ref 140, .int k, .int s, .ref 123]) (h1 := h) rfl ?_
          refine RP.ald (i := 43) (t := 0) (j := k) rfl (Or.inl rfl) gh (show HMs[140]? = some (.inl (0, 24, -2147483648, 2147483647, false)) from rfl) k1 (by show _ < ((24 : Nat) : Int); omega) (fun b51 b52 => ?_)
          obtain ⟨vs2, hx2⟩ := ob_sp (a := 123) (ci := 7) gh rfl
          refine RP.call (M1 := m_X7_keep) (cv_step rfl rfl hx2 rfl rfl) rfl rfl (y_keep s k (aI h 140 k.toNatClampNeg) a1 a2 k1 (by omega) h gh) (fun r h5 w => ?_)
          obtain ⟨rfl, g5, f5, w5⟩ := w
          refine RP.step (i1 := 46) (L1 := [some (.ref 123), some (.int a), some (.int s), some (.int (k + 1))]) (st1 := []) (h1 := h5) rfl ?_
          refine RP.step (i1 := 21) (L1 := [some (.ref 123), some (.int a), some (.int s), some (.int (k + 1))]) (st1 := []) (h1 := h5) rfl ?_
          have e5 := e4 (by omega)
          have sm5 : smY h h5 := by rw [w5]; exact ⟨setA_ne (by decide), setA_ne (by decide), setA_ne (by decide)⟩
          exact (ih (k + 1) h5 g5 ((aI_cong sm5.2.2).trans hz) (by omega) (by omega) (by omega)).mono (fun r h2 q => ⟨q.1, fH.tr g5 f5 q.2.1, sm5.tr q.2.2.1, q.2.2.2⟩)
        · skip
          have c4 := m_ff m_ne_iff c4
          have c4n := Decidable.of_not_not c4
          refine RP.step (i1 := 36) (L1 := [some (.ref 123), some (.int a), some (.int s), some (.int k)]) (st1 := [.ref 123, .int k, .int s, .ref 123]) (h1 := h) rfl ?_
          refine RP.getR (i := 36) rfl gh rfl ?_
          refine RP.step (i1 := 38) (L1 := [some (.ref 123), some (.int a), some (.int s), some (.int k)]) (st1 := [.int k, .ref 139, .int k, .int s, .ref 123]) (h1 := h) rfl ?_
          refine RP.ald (i := 38) (t := 0) (j := k) rfl (Or.inl rfl) gh (show HMs[139]? = some (.inl (0, 24, -2147483648, 2147483647, false)) from rfl) k1 (by show _ < ((24 : Nat) : Int); omega) (fun b61 b62 => ?_)
          refine RP.step (i1 := 44) (L1 := [some (.ref 123), some (.int a), some (.int s), some (.int k)]) (st1 := [.int (aI h 139 k.toNatClampNeg), .int k, .int s, .ref 123]) (h1 := h) rfl ?_
          obtain ⟨vs2, hx2⟩ := ob_sp (a := 123) (ci := 7) gh rfl
          refine RP.call (M1 := m_X7_keep) (cv_step rfl rfl hx2 rfl rfl) rfl rfl (y_keep s k (aI h 139 k.toNatClampNeg) a1 a2 k1 (by omega) h gh) (fun r h5 w => ?_)
          obtain ⟨rfl, g5, f5, w5⟩ := w
          refine RP.step (i1 := 46) (L1 := [some (.ref 123), some (.int a), some (.int s), some (.int (k + 1))]) (st1 := []) (h1 := h5) rfl ?_
          refine RP.step (i1 := 21) (L1 := [some (.ref 123), some (.int a), some (.int s), some (.int (k + 1))]) (st1 := []) (h1 := h5) rfl ?_
          have e5 := e4 (by omega)
          have sm5 : smY h h5 := by rw [w5]; exact ⟨setA_ne (by decide), setA_ne (by decide), setA_ne (by decide)⟩
          exact (ih (k + 1) h5 g5 ((aI_cong sm5.2.2).trans hz) (by omega) (by omega) (by omega)).mono (fun r h2 q => ⟨q.1, fH.tr g5 f5 q.2.1, sm5.tr q.2.2.1, q.2.2.2⟩)
theorem y_writeE (a s : Int32) (h : MH) (gh : gH HMs h) : RP m_X7_write 0 (m_ent 4 [.ref 123, .int a, .int s]) [] h (WrY a s h) := by
  have z0 : (0 : Int32).toInt = 0 := by decide
  have z1 : (1 : Int32).toInt = 1 := by decide
  have z2 : (2 : Int32).toInt = 2 := by decide
  have z3 : (3 : Int32).toInt = 3 := by decide
  have z4 : (4 : Int32).toInt = 4 := by decide
  have z60 : (60 : Int32).toInt = 60 := by decide
  have s148 : HMs[148]? = some (.inl (1, 4, 0, 1, false)) := rfl
  have s149 : HMs[149]? = some (.inl (0, 4, -2147483648, 2147483647, false)) := rfl
  have s150 : HMs[150]? = some (.inl (0, 4, 0, 60, false)) := rfl
  have s151 : HMs[151]? = some (.inl (0, 240, -2147483648, 2147483647, false)) := rfl
  refine RP.step (i1 := 1) (L1 := [some (.ref 123), some (.int a), some (.int s), none]) (st1 := [.int a]) (h1 := h) rfl ?_
  refine c_isTwo (v := a) rfl (fun c1a c1b => ?_) (fun c1 => ?_)
  · skip
    have hok2 : ok2 a := ⟨c1a, c1b⟩
    refine RP.step (i1 := 3) (L1 := [some (.ref 123), some (.int a), some (.int s), none]) (st1 := []) (h1 := h) rfl ?_
    refine RP.step (i1 := 4) (L1 := [some (.ref 123), some (.int a), some (.int s), none]) (st1 := [.int s]) (h1 := h) rfl ?_
    refine c_isSheet (v := s) rfl (fun c3a c3b => ?_) (fun c3 => ?_)
    · skip
      have hok : okS s := ⟨c3a, c3b⟩
      have hn := nat_cl c3a
      refine RP.step (i1 := 8) (L1 := [some (.ref 123), some (.int a), some (.int s), none]) (st1 := []) (h1 := h) rfl ?_
      refine RP.step (i1 := 9) (L1 := [some (.ref 123), some (.int a), some (.int s), none]) (st1 := [.ref 123]) (h1 := h) rfl ?_
      refine RP.getR (i := 9) rfl gh rfl ?_
      refine RP.step (i1 := 11) (L1 := [some (.ref 123), some (.int a), some (.int s), none]) (st1 := [.int s, .ref 148]) (h1 := h) rfl ?_
      refine RP.ald (i := 11) (t := 1) (j := s) rfl (Or.inr rfl) gh s148 c3a (by show _ < ((4 : Nat) : Int); omega) (fun b51 b52 => ?_)
      refine RP.ifc (x := aI h 148 s.toNatClampNeg) rfl (fun c6 => ?_) (fun c6 => ?_)
      · skip
        have c6 := m_ne_iff.mp c6
        refine RP.step (i1 := 18) (L1 := [some (.ref 123), some (.int a), some (.int s), none]) (st1 := [.ref 123]) (h1 := h) rfl ?_
        obtain ⟨vs, hx⟩ := ob_sp (a := 123) (ci := 7) gh rfl
        refine RP.call (M1 := m_X7_runsTold) (cv_step rfl rfl hx rfl rfl) rfl rfl (y_runs h gh) (fun r h5 w => ?_)
        obtain ⟨⟨rfl, g5, f5⟩, sm5⟩ := w
        refine RP.step (i1 := 20) (L1 := [some (.ref 123), some (.int a), some (.int s), none]) (st1 := [.int 0]) (h1 := h5) rfl ?_
        refine RP.step (i1 := 21) (L1 := [some (.ref 123), some (.int a), some (.int s), some (.int 0)]) (st1 := []) (h1 := h5) rfl ?_
        obtain ⟨-, -, -, -, y1, y2⟩ := aI_sp gh s150 (show s.toNatClampNeg < 4 by omega)
        obtain ⟨b1, b2, b3, -⟩ := mn24_b (z := aI h 150 s.toNatClampNeg) y1
        refine (y_write_l a s (aI h 150 s.toNatClampNeg) c3a c3b y1 y2 25 0 h5 g5 (aI_cong sm5.2.2) (by decide) b1 (by decide)).mono (fun r h2 w => ⟨w.1, fH.tr g5 f5 w.2.1, sm5.tr w.2.2.1, Or.inr (Or.inr ⟨⟨hok2, hok⟩, by assumption, w.2.2.2⟩)⟩)
      · skip
        have c6 := m_ff m_ne_iff c6
        have c6n := Decidable.of_not_not c6
        refine RP.step (i1 := 14) (L1 := [some (.ref 123), some (.int a), some (.int s), none]) (st1 := [.ref 123]) (h1 := h) rfl ?_
        refine RP.step (i1 := 15) (L1 := [some (.ref 123), some (.int a), some (.int s), none]) (st1 := [.int 1, .ref 123]) (h1 := h) rfl ?_
        refine c_meets (v := 1) rfl rfl rfl rfl rfl gh (fun g9 t9 => ?_)
        exact RP.ret rfl ⟨g9, t9, smY_F, Or.inr (Or.inl ⟨⟨hok2, hok⟩, (by first | assumption | exact Decidable.of_not_not (by assumption)), rfl⟩)⟩
    · skip
      refine RP.step (i1 := 6) (L1 := [some (.ref 123), some (.int a), some (.int s), none]) (st1 := []) (h1 := h) rfl ?_
      refine RP.step (i1 := 7) (L1 := [some (.ref 123), some (.int a), some (.int s), none]) (st1 := [.int (-2)]) (h1 := h) rfl ?_
      exact RP.ret rfl ⟨gh, fH.rf _ _, smY.rf _, Or.inl ⟨fun w => c3 w.2, rfl⟩⟩
  · skip
    refine RP.step (i1 := 6) (L1 := [some (.ref 123), some (.int a), some (.int s), none]) (st1 := []) (h1 := h) rfl ?_
    refine RP.step (i1 := 7) (L1 := [some (.ref 123), some (.int a), some (.int s), none]) (st1 := [.int (-2)]) (h1 := h) rfl ?_
    exact RP.ret rfl ⟨gh, fH.rf _ _, smY.rf _, Or.inl ⟨fun w => c1 w.1, rfl⟩⟩
