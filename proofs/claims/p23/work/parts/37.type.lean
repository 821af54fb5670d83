/-! type of the class; wipe, undo, type of the model -/
theorem x_type_bad (t b : Int32) (h : MH) (ht : ¬ ((0 ≤ t.toInt ∧ t.toInt < 3) ∧ (0 ≤ b.toInt ∧ b.toInt < 256))) : RP m_X6_type 0 (m_ent 4 [.ref 0, .int t, .int b]) [] h (fun r h1 => h1 = h ∧ r = some (.int (-2))) := by
  have z3 : (3 : Int32).toInt = 3 := by decide
  have z6 : (256 : Int32).toInt = 256 := by decide
  refine RP.step rfl ?_
  refine RP.step rfl ?_
  refine c_isBelow (v := t) (n := 3) rfl (fun q1 q2 => ?_) (fun q => ?_)
  · refine RP.step rfl ?_
    refine RP.step rfl ?_
    refine RP.step rfl ?_
    refine c_isBelow (v := b) (n := 256) rfl (fun q3 q4 => absurd ⟨⟨q1, by omega⟩, q3, by omega⟩ ht) (fun q => ?_)
    refine RP.step rfl ?_
    refine RP.step rfl ?_
    exact RP.ret rfl ⟨rfl, rfl⟩
  · refine RP.step rfl ?_
    refine RP.step rfl ?_
    exact RP.ret rfl ⟨rfl, rfl⟩

theorem x_type_0 (b : Int32) (h : MH) (gh : gH HC h) (hb1 : 0 ≤ b.toInt) (hb2 : b.toInt < 256) : RP m_X6_type 0 (m_ent 4 [.ref 0, .int 0, .int b]) [] h (fun r h1 => (¬ (len h 0).toInt < 23 ∧ LnP h r h1 (-4) (len h)) ∨ ((len h 0).toInt < 23 ∧ LnP h r h1 (len h 0 + 1) (fun k => if k = 0 then len h 0 + 1 else len h k))) := by
  have z6 : (256 : Int32).toInt = 256 := by decide
  have zr : (Int32.ofNat 23).toInt = 23 := by decide
  refine RP.step rfl ?_
  refine RP.step rfl ?_
  refine c_isBelow (v := 0) (n := 3) rfl (fun q1 q2 => ?_) (fun q => absurd ⟨by decide, by decide⟩ q)
  refine RP.step rfl ?_
  refine RP.step rfl ?_
  refine RP.step rfl ?_
  refine c_isBelow (v := b) (n := 256) rfl (fun q3 q4 => ?_) (fun q => absurd ⟨hb1, by omega⟩ q)
  refine RP.step rfl ?_
  refine RP.step rfl ?_
  refine RP.getR rfl gh rfl ?_
  refine RP.step rfl ?_
  refine RP.aald rfl gh rfl rfl rfl rfl ?_
  refine RP.step rfl ?_
  refine RP.step rfl ?_
  refine RP.getI rfl gh rfl (fun r1 r2 => ?_)
  have l1 : (0 : Int) ≤ (len h 0).toInt := r1
  have l2 : (len h 0).toInt ≤ 23 := r2
  refine RP.step rfl ?_
  refine RP.getR rfl gh rfl ?_
  refine RP.alen rfl gh rfl ?_
  refine RP.icmp rfl (fun c1 => ?_) (fun c1 => ?_)
  · have hlt : (len h 0).toInt < 23 := by
      have := m_lt_iff.mp c1
      rw [zr] at this
      exact this
    have s1 : (1 : Int32).toInt = 1 := by decide
    have ls : (len h 0 + 1).toInt = (len h 0).toInt + 1 := (i32_add (by omega) (by omega)).trans (by omega)
    refine RP.step rfl ?_
    refine RP.getR rfl gh rfl ?_
    refine RP.step rfl ?_
    refine RP.getI rfl gh rfl (fun r3 r4 => ?_)
    refine RP.step rfl ?_
    refine RP.ast (j := len h 0) (x := b) rfl gh rfl l1 (by show _ < ((23 : Nat) : Int); omega) ?_
    have zn := z_nat l1
    have hfa : HC[110]? = some (.inl (0, 23, -2147483648, 2147483647, true)) := rfl
    obtain ⟨ga, -, -⟩ := setA_sp (j := (len h 0).toNatClampNeg) (x := b) gh hfa (by omega) (i32_ge b) (i32_le b)
    refine RP.step rfl ?_
    refine RP.step rfl ?_
    refine RP.getI rfl ga rfl (fun r5 r6 => ?_)
    have el : fI (setA h 110 (len h 0).toNatClampNeg b) 109 1 = len h 0 := fI_cong (setA_ne (by decide))
    refine RP.step rfl ?_
    refine RP.step rfl ?_
    have hf : a_fd HC 4 1 109 = some (.inr (0, 23, true)) := rfl
    show RP m_X6_type _ _ (Value.int (fI (setA h 110 (len h 0).toNatClampNeg b) 109 1 + 1) :: _) _ _
    rw [el]
    refine RP.putI (x := len h 0 + 1) rfl ga rfl rfl ?_
    obtain ⟨g1, e1, -⟩ := setF_sp (x := len h 0 + 1) ga hf (by omega) (by omega)
    obtain ⟨vs, hx⟩ := ob_sp (a := 0) (ci := 6) g1 rfl
    refine RP.step rfl ?_
    refine RP.step rfl ?_
    refine RP.callP (cv_step rfl rfl hx rfl rfl) p_sc8 rfl ⟨⟨0, rfl, List.mem_singleton.mpr rfl⟩, ⟨0, rfl, by decide, by decide, fun k d q => by cases q⟩, trivial⟩ (g1.eq eq_HCs) (fun r h2 alt ha gr g2 f2 => ?_)
    have g1s := g1.eq eq_HCs
    have er : r = none := by
      have := List.mem_singleton.mp ha
      subst this
      cases r with
      | none => rfl
      | some v => exact gr.elim
    subst er
    have g2c := g2.eq eq_HCr
    refine RP.step rfl ?_
    refine RP.getI rfl g2c rfl (fun r7 r8 => ?_)
    have l0 : len h2 0 = len (setF (setA h 110 (len h 0).toNatClampNeg b) 109 1 (len h 0 + 1)) 0 := fI_fz f2 g1s g2 (show a_fd HCs 4 1 109 = some (.inr (0, 23, true)) from rfl)
    have l1 : len h2 1 = len (setF (setA h 110 (len h 0).toNatClampNeg b) 109 1 (len h 0 + 1)) 1 := fI_fz f2 g1s g2 (show a_fd HCs 4 1 111 = some (.inr (0, 24, true)) from rfl)
    have l2 : len h2 2 = len (setF (setA h 110 (len h 0).toNatClampNeg b) 109 1 (len h 0 + 1)) 2 := fI_fz f2 g1s g2 (show a_fd HCs 4 1 113 = some (.inr (0, 24, true)) from rfl)
    refine RP.ret rfl (Or.inr ⟨hlt, g2c, fun a hb => ?_, ?_, fun k hk => ?_⟩)
    · exact (from_of HCs_len any_Cs f2 g1s g2 a hb).trans ((setF_ne (by omega)).trans (setA_ne (by omega)))
    · show some (Value.int (len h2 0)) = _
      rw [l0]
      exact congrArg (fun z => some (Value.int z)) e1
    · match k, hk with
      | 0, _ => exact l0.trans (e1)
      | 1, _ => exact l1.trans ((fI_cong (setF_ne (by decide))).trans (fI_cong (setA_ne (by decide))))
      | 2, _ => exact l2.trans ((fI_cong (setF_ne (by decide))).trans (fI_cong (setA_ne (by decide))))
  · have hn : ¬ (len h 0).toInt < 23 := by
      have := m_ff m_lt_iff c1
      rw [zr] at this
      exact this
    refine RP.step rfl ?_
    exact RP.ret rfl (Or.inl ⟨hn, gh, sameFrom.rf _ h, rfl, fun k hk => rfl⟩)

theorem x_type_1 (b : Int32) (h : MH) (gh : gH HC h) (hb1 : 0 ≤ b.toInt) (hb2 : b.toInt < 256) : RP m_X6_type 0 (m_ent 4 [.ref 0, .int 1, .int b]) [] h (fun r h1 => (¬ (len h 1).toInt < 24 ∧ LnP h r h1 (-4) (len h)) ∨ ((len h 1).toInt < 24 ∧ LnP h r h1 (len h 1 + 1) (fun k => if k = 1 then len h 1 + 1 else len h k))) := by
  have z6 : (256 : Int32).toInt = 256 := by decide
  have zr : (Int32.ofNat 24).toInt = 24 := by decide
  refine RP.step rfl ?_
  refine RP.step rfl ?_
  refine c_isBelow (v := 1) (n := 3) rfl (fun q1 q2 => ?_) (fun q => absurd ⟨by decide, by decide⟩ q)
  refine RP.step rfl ?_
  refine RP.step rfl ?_
  refine RP.step rfl ?_
  refine c_isBelow (v := b) (n := 256) rfl (fun q3 q4 => ?_) (fun q => absurd ⟨hb1, by omega⟩ q)
  refine RP.step rfl ?_
  refine RP.step rfl ?_
  refine RP.getR rfl gh rfl ?_
  refine RP.step rfl ?_
  refine RP.aald rfl gh rfl rfl rfl rfl ?_
  refine RP.step rfl ?_
  refine RP.step rfl ?_
  refine RP.getI rfl gh rfl (fun r1 r2 => ?_)
  have l1 : (0 : Int) ≤ (len h 1).toInt := r1
  have l2 : (len h 1).toInt ≤ 24 := r2
  refine RP.step rfl ?_
  refine RP.getR rfl gh rfl ?_
  refine RP.alen rfl gh rfl ?_
  refine RP.icmp rfl (fun c1 => ?_) (fun c1 => ?_)
  · have hlt : (len h 1).toInt < 24 := by
      have := m_lt_iff.mp c1
      rw [zr] at this
      exact this
    have s1 : (1 : Int32).toInt = 1 := by decide
    have ls : (len h 1 + 1).toInt = (len h 1).toInt + 1 := (i32_add (by omega) (by omega)).trans (by omega)
    refine RP.step rfl ?_
    refine RP.getR rfl gh rfl ?_
    refine RP.step rfl ?_
    refine RP.getI rfl gh rfl (fun r3 r4 => ?_)
    refine RP.step rfl ?_
    refine RP.ast (j := len h 1) (x := b) rfl gh rfl l1 (by show _ < ((24 : Nat) : Int); omega) ?_
    have zn := z_nat l1
    have hfa : HC[112]? = some (.inl (0, 24, -2147483648, 2147483647, true)) := rfl
    obtain ⟨ga, -, -⟩ := setA_sp (j := (len h 1).toNatClampNeg) (x := b) gh hfa (by omega) (i32_ge b) (i32_le b)
    refine RP.step rfl ?_
    refine RP.step rfl ?_
    refine RP.getI rfl ga rfl (fun r5 r6 => ?_)
    have el : fI (setA h 112 (len h 1).toNatClampNeg b) 111 1 = len h 1 := fI_cong (setA_ne (by decide))
    refine RP.step rfl ?_
    refine RP.step rfl ?_
    have hf : a_fd HC 4 1 111 = some (.inr (0, 24, true)) := rfl
    show RP m_X6_type _ _ (Value.int (fI (setA h 112 (len h 1).toNatClampNeg b) 111 1 + 1) :: _) _ _
    rw [el]
    refine RP.putI (x := len h 1 + 1) rfl ga rfl rfl ?_
    obtain ⟨g1, e1, -⟩ := setF_sp (x := len h 1 + 1) ga hf (by omega) (by omega)
    obtain ⟨vs, hx⟩ := ob_sp (a := 0) (ci := 6) g1 rfl
    refine RP.step rfl ?_
    refine RP.step rfl ?_
    refine RP.callP (cv_step rfl rfl hx rfl rfl) p_sc8 rfl ⟨⟨0, rfl, List.mem_singleton.mpr rfl⟩, ⟨1, rfl, by decide, by decide, fun k d q => by cases q⟩, trivial⟩ (g1.eq eq_HCs) (fun r h2 alt ha gr g2 f2 => ?_)
    have g1s := g1.eq eq_HCs
    have er : r = none := by
      have := List.mem_singleton.mp ha
      subst this
      cases r with
      | none => rfl
      | some v => exact gr.elim
    subst er
    have g2c := g2.eq eq_HCr
    refine RP.step rfl ?_
    refine RP.getI rfl g2c rfl (fun r7 r8 => ?_)
    have l0 : len h2 0 = len (setF (setA h 112 (len h 1).toNatClampNeg b) 111 1 (len h 1 + 1)) 0 := fI_fz f2 g1s g2 (show a_fd HCs 4 1 109 = some (.inr (0, 23, true)) from rfl)
    have l1 : len h2 1 = len (setF (setA h 112 (len h 1).toNatClampNeg b) 111 1 (len h 1 + 1)) 1 := fI_fz f2 g1s g2 (show a_fd HCs 4 1 111 = some (.inr (0, 24, true)) from rfl)
    have l2 : len h2 2 = len (setF (setA h 112 (len h 1).toNatClampNeg b) 111 1 (len h 1 + 1)) 2 := fI_fz f2 g1s g2 (show a_fd HCs 4 1 113 = some (.inr (0, 24, true)) from rfl)
    refine RP.ret rfl (Or.inr ⟨hlt, g2c, fun a hb => ?_, ?_, fun k hk => ?_⟩)
    · exact (from_of HCs_len any_Cs f2 g1s g2 a hb).trans ((setF_ne (by omega)).trans (setA_ne (by omega)))
    · show some (Value.int (len h2 1)) = _
      rw [l1]
      exact congrArg (fun z => some (Value.int z)) e1
    · match k, hk with
      | 0, _ => exact l0.trans ((fI_cong (setF_ne (by decide))).trans (fI_cong (setA_ne (by decide))))
      | 1, _ => exact l1.trans (e1)
      | 2, _ => exact l2.trans ((fI_cong (setF_ne (by decide))).trans (fI_cong (setA_ne (by decide))))
  · have hn : ¬ (len h 1).toInt < 24 := by
      have := m_ff m_lt_iff c1
      rw [zr] at this
      exact this
    refine RP.step rfl ?_
    exact RP.ret rfl (Or.inl ⟨hn, gh, sameFrom.rf _ h, rfl, fun k hk => rfl⟩)

theorem x_type_2 (b : Int32) (h : MH) (gh : gH HC h) (hb1 : 0 ≤ b.toInt) (hb2 : b.toInt < 256) : RP m_X6_type 0 (m_ent 4 [.ref 0, .int 2, .int b]) [] h (fun r h1 => (¬ (len h 2).toInt < 24 ∧ LnP h r h1 (-4) (len h)) ∨ ((len h 2).toInt < 24 ∧ LnP h r h1 (len h 2 + 1) (fun k => if k = 2 then len h 2 + 1 else len h k))) := by
  have z6 : (256 : Int32).toInt = 256 := by decide
  have zr : (Int32.ofNat 24).toInt = 24 := by decide
  refine RP.step rfl ?_
  refine RP.step rfl ?_
  refine c_isBelow (v := 2) (n := 3) rfl (fun q1 q2 => ?_) (fun q => absurd ⟨by decide, by decide⟩ q)
  refine RP.step rfl ?_
  refine RP.step rfl ?_
  refine RP.step rfl ?_
  refine c_isBelow (v := b) (n := 256) rfl (fun q3 q4 => ?_) (fun q => absurd ⟨hb1, by omega⟩ q)
  refine RP.step rfl ?_
  refine RP.step rfl ?_
  refine RP.getR rfl gh rfl ?_
  refine RP.step rfl ?_
  refine RP.aald rfl gh rfl rfl rfl rfl ?_
  refine RP.step rfl ?_
  refine RP.step rfl ?_
  refine RP.getI rfl gh rfl (fun r1 r2 => ?_)
  have l1 : (0 : Int) ≤ (len h 2).toInt := r1
  have l2 : (len h 2).toInt ≤ 24 := r2
  refine RP.step rfl ?_
  refine RP.getR rfl gh rfl ?_
  refine RP.alen rfl gh rfl ?_
  refine RP.icmp rfl (fun c1 => ?_) (fun c1 => ?_)
  · have hlt : (len h 2).toInt < 24 := by
      have := m_lt_iff.mp c1
      rw [zr] at this
      exact this
    have s1 : (1 : Int32).toInt = 1 := by decide
    have ls : (len h 2 + 1).toInt = (len h 2).toInt + 1 := (i32_add (by omega) (by omega)).trans (by omega)
    refine RP.step rfl ?_
    refine RP.getR rfl gh rfl ?_
    refine RP.step rfl ?_
    refine RP.getI rfl gh rfl (fun r3 r4 => ?_)
    refine RP.step rfl ?_
    refine RP.ast (j := len h 2) (x := b) rfl gh rfl l1 (by show _ < ((24 : Nat) : Int); omega) ?_
    have zn := z_nat l1
    have hfa : HC[114]? = some (.inl (0, 24, -2147483648, 2147483647, true)) := rfl
    obtain ⟨ga, -, -⟩ := setA_sp (j := (len h 2).toNatClampNeg) (x := b) gh hfa (by omega) (i32_ge b) (i32_le b)
    refine RP.step rfl ?_
    refine RP.step rfl ?_
    refine RP.getI rfl ga rfl (fun r5 r6 => ?_)
    have el : fI (setA h 114 (len h 2).toNatClampNeg b) 113 1 = len h 2 := fI_cong (setA_ne (by decide))
    refine RP.step rfl ?_
    refine RP.step rfl ?_
    have hf : a_fd HC 4 1 113 = some (.inr (0, 24, true)) := rfl
    show RP m_X6_type _ _ (Value.int (fI (setA h 114 (len h 2).toNatClampNeg b) 113 1 + 1) :: _) _ _
    rw [el]
    refine RP.putI (x := len h 2 + 1) rfl ga rfl rfl ?_
    obtain ⟨g1, e1, -⟩ := setF_sp (x := len h 2 + 1) ga hf (by omega) (by omega)
    obtain ⟨vs, hx⟩ := ob_sp (a := 0) (ci := 6) g1 rfl
    refine RP.step rfl ?_
    refine RP.step rfl ?_
    refine RP.callP (cv_step rfl rfl hx rfl rfl) p_sc8 rfl ⟨⟨0, rfl, List.mem_singleton.mpr rfl⟩, ⟨2, rfl, by decide, by decide, fun k d q => by cases q⟩, trivial⟩ (g1.eq eq_HCs) (fun r h2 alt ha gr g2 f2 => ?_)
    have g1s := g1.eq eq_HCs
    have er : r = none := by
      have := List.mem_singleton.mp ha
      subst this
      cases r with
      | none => rfl
      | some v => exact gr.elim
    subst er
    have g2c := g2.eq eq_HCr
    refine RP.step rfl ?_
    refine RP.getI rfl g2c rfl (fun r7 r8 => ?_)
    have l0 : len h2 0 = len (setF (setA h 114 (len h 2).toNatClampNeg b) 113 1 (len h 2 + 1)) 0 := fI_fz f2 g1s g2 (show a_fd HCs 4 1 109 = some (.inr (0, 23, true)) from rfl)
    have l1 : len h2 1 = len (setF (setA h 114 (len h 2).toNatClampNeg b) 113 1 (len h 2 + 1)) 1 := fI_fz f2 g1s g2 (show a_fd HCs 4 1 111 = some (.inr (0, 24, true)) from rfl)
    have l2 : len h2 2 = len (setF (setA h 114 (len h 2).toNatClampNeg b) 113 1 (len h 2 + 1)) 2 := fI_fz f2 g1s g2 (show a_fd HCs 4 1 113 = some (.inr (0, 24, true)) from rfl)
    refine RP.ret rfl (Or.inr ⟨hlt, g2c, fun a hb => ?_, ?_, fun k hk => ?_⟩)
    · exact (from_of HCs_len any_Cs f2 g1s g2 a hb).trans ((setF_ne (by omega)).trans (setA_ne (by omega)))
    · show some (Value.int (len h2 2)) = _
      rw [l2]
      exact congrArg (fun z => some (Value.int z)) e1
    · match k, hk with
      | 0, _ => exact l0.trans ((fI_cong (setF_ne (by decide))).trans (fI_cong (setA_ne (by decide))))
      | 1, _ => exact l1.trans ((fI_cong (setF_ne (by decide))).trans (fI_cong (setA_ne (by decide))))
      | 2, _ => exact l2.trans (e1)
  · have hn : ¬ (len h 2).toInt < 24 := by
      have := m_ff m_lt_iff c1
      rw [zr] at this
      exact this
    refine RP.step rfl ?_
    exact RP.ret rfl (Or.inl ⟨hn, gh, sameFrom.rf _ h, rfl, fun k hk => rfl⟩)

theorem z_typ {h : MH} (gh : gH HM h) {t : Int32} (h1 : 0 ≤ t.toInt) (h2 : t.toInt < 3) : 0 ≤ (aI h 124 t.toNatClampNeg).toInt ∧ (aI h 124 t.toNatClampNeg).toInt ≤ 24 := by
  have zn := z_nat h1
  obtain ⟨l, -, -, -, x1, x2⟩ := aI_sp (j := t.toNatClampNeg) gh (show HM[124]? = some (.inl (0, 3, 0, 24, true)) from rfl) (by omega)
  exact ⟨x1, x2⟩
/-- what type, wipe, undo of the model do: the class's cells stay, the lengths become f's -/
def TnP (h : MH) (r : Option Value) (h1 : MH) (v : Int32) (f : Nat → Int32) : Prop := gH HM h1 ∧ sameTo 123 h h1 ∧ r = some (.int v) ∧ ∀ j, j < 3 → typ h1 j = f j
theorem y_wipe_bad (t : Int32) (h : MH) (ht : ¬ (0 ≤ t.toInt ∧ t.toInt ≤ 2)) : RP m_X7_wipe 0 (m_ent 3 [.ref 123, .int t]) [] h (fun r h1 => h1 = h ∧ r = some (.int (-2))) := by
  refine RP.step rfl ?_
  refine c_isText (v := t) rfl (fun q1 q2 => absurd ⟨q1, q2⟩ ht) (fun q => ?_)
  refine RP.step rfl ?_
  refine RP.step rfl ?_
  exact RP.ret rfl ⟨rfl, rfl⟩
theorem y_wipe (t : Int32) (h : MH) (gh : gH HM h) (h1 : 0 ≤ t.toInt) (h2 : t.toInt ≤ 2) : RP m_X7_wipe 0 (m_ent 3 [.ref 123, .int t]) [] h (fun r h1 => TnP h r h1 (typ h t.toNatClampNeg) (fun k => if k = t.toNatClampNeg then 0 else typ h k)) := by
  have zn := z_nat h1
  have hfa : HM[124]? = some (.inl (0, 3, 0, 24, true)) := rfl
  refine RP.step rfl ?_
  refine c_isText (v := t) rfl (fun q1 q2 => ?_) (fun q => absurd ⟨h1, h2⟩ q)
  refine RP.step rfl ?_
  refine RP.step rfl ?_
  refine RP.getR rfl gh rfl ?_
  refine RP.step rfl ?_
  refine RP.ald (t := 0) rfl (Or.inl rfl) gh hfa h1 (by show _ < ((3 : Nat) : Int); omega) (fun r1 r2 => ?_)
  refine RP.step rfl ?_
  refine RP.step rfl ?_
  refine RP.getR rfl gh rfl ?_
  refine RP.step rfl ?_
  refine RP.step rfl ?_
  refine RP.ast (j := t) (x := 0) rfl gh hfa h1 (by show _ < ((3 : Nat) : Int); omega) ?_
  obtain ⟨ga, e1, e2⟩ := setA_sp (j := t.toNatClampNeg) (x := 0) gh hfa (by omega) (by decide) (by decide)
  refine RP.step rfl ?_
  refine RP.ret rfl ⟨ga, fun a ha => setA_ne (by omega), rfl, fun k hk => ?_⟩
  dsimp only
  by_cases e : k = t.toNatClampNeg
  · rw [if_pos e, e]; exact e1
  · rw [if_neg e]; exact e2 k e
theorem y_undo_bad (t : Int32) (h : MH) (ht : ¬ (0 ≤ t.toInt ∧ t.toInt ≤ 2)) : RP m_X7_undo 0 (m_ent 2 [.ref 123, .int t]) [] h (fun r h1 => h1 = h ∧ r = some (.int (-2))) := by
  refine RP.step rfl ?_
  refine c_isText (v := t) rfl (fun q1 q2 => absurd ⟨q1, q2⟩ ht) (fun q => ?_)
  refine RP.step rfl ?_
  refine RP.step rfl ?_
  exact RP.ret rfl ⟨rfl, rfl⟩
theorem sameTo.rf (lo : Nat) (h : MH) : sameTo lo h h := fun _ _ => rfl
theorem y_undo (t : Int32) (h : MH) (gh : gH HM h) (h1 : 0 ≤ t.toInt) (h2 : t.toInt ≤ 2) : RP m_X7_undo 0 (m_ent 2 [.ref 123, .int t]) [] h (fun r h1 => (typ h t.toNatClampNeg = 0 ∧ TnP h r h1 (-3) (typ h)) ∨ (¬ typ h t.toNatClampNeg = 0 ∧ TnP h r h1 (typ h t.toNatClampNeg - 1) (fun k => if k = t.toNatClampNeg then typ h t.toNatClampNeg - 1 else typ h k))) := by
  have zn := z_nat h1
  have hfa : HM[124]? = some (.inl (0, 3, 0, 24, true)) := rfl
  have h3 : t.toInt < ((3 : Nat) : Int) := by omega
  refine RP.step rfl ?_
  refine c_isText (v := t) rfl (fun q1 q2 => ?_) (fun q => absurd ⟨h1, h2⟩ q)
  refine RP.step rfl ?_
  refine RP.step rfl ?_
  refine RP.getR rfl gh rfl ?_
  refine RP.step rfl ?_
  refine RP.ald (t := 0) rfl (Or.inl rfl) gh hfa h1 h3 (fun r1 r2 => ?_)
  refine RP.ifc rfl (fun c1 => ?_) (fun c1 => ?_)
  · have hn0 : ¬ typ h t.toNatClampNeg = 0 := m_ne0.mp c1
    have l1 : (0 : Int) ≤ (typ h t.toNatClampNeg).toInt := r1
    have l2 : (typ h t.toNatClampNeg).toInt ≤ 24 := r2
    have l3 : ¬ (typ h t.toNatClampNeg).toInt = 0 := fun q => hn0 (Int32.toInt_inj.mp (q.trans (by decide)))
    have s1 : (1 : Int32).toInt = 1 := by decide
    have ls : (typ h t.toNatClampNeg - 1).toInt = (typ h t.toNatClampNeg).toInt - 1 := (i32_sub (by omega) (by omega)).trans (by omega)
    refine RP.step rfl ?_
    refine RP.getR rfl gh rfl ?_
    refine RP.step rfl ?_
    refine RP.step rfl ?_
    refine RP.ald (t := 0) rfl (Or.inl rfl) gh hfa h1 h3 (fun r3 r4 => ?_)
    refine RP.step rfl ?_
    refine RP.step rfl ?_
    refine RP.ast (j := t) (x := typ h t.toNatClampNeg - 1) rfl gh hfa h1 h3 ?_
    obtain ⟨ga, e1, e2⟩ := setA_sp (j := t.toNatClampNeg) (x := typ h t.toNatClampNeg - 1) gh hfa (by omega) (by omega) (by omega)
    refine RP.step rfl ?_
    refine RP.getR rfl ga rfl ?_
    refine RP.step rfl ?_
    refine RP.ald (t := 0) rfl (Or.inl rfl) ga hfa h1 h3 (fun r5 r6 => ?_)
    refine RP.ret rfl (Or.inr ⟨hn0, ga, fun a ha => setA_ne (by omega), congrArg (fun z => some (Value.int z)) e1, fun k hk => ?_⟩)
    dsimp only
    by_cases e : k = t.toNatClampNeg
    · rw [if_pos e, e]; exact e1
    · rw [if_neg e]; exact e2 k e
  · have h0 : typ h t.toNatClampNeg = 0 := Classical.not_not.mp (m_ff m_ne0 c1)
    refine RP.step rfl ?_
    exact RP.ret rfl (Or.inl ⟨h0, gh, sameTo.rf _ h, rfl, fun k hk => rfl⟩)
