/-! type of the model -/
theorem y_type_bad (t b : Int32) (h : MH) (ht : ¬ ((0 ≤ t.toInt ∧ t.toInt ≤ 2) ∧ (0 ≤ b.toInt ∧ b.toInt ≤ 255))) : RP m_X7_type 0 (m_ent 3 [.ref 123, .int t, .int b]) [] h (fun r h1 => h1 = h ∧ r = some (.int (-2))) := by
  have z0 : (0 : Int32).toInt = 0 := by decide
  have z5 : (255 : Int32).toInt = 255 := by decide
  refine RP.step rfl ?_
  refine c_isText (v := t) rfl (fun q1 q2 => ?_) (fun q => ?_)
  · refine RP.step rfl ?_
    refine RP.step rfl ?_
    refine RP.step rfl ?_
    refine RP.step rfl ?_
    refine c_in (v := b) (a := 0) (b := 255) rfl (fun q3 q4 => absurd ⟨⟨q1, q2⟩, by omega, by omega⟩ ht) (fun q => ?_)
    refine RP.step rfl ?_
    refine RP.step rfl ?_
    exact RP.ret rfl ⟨rfl, rfl⟩
  · refine RP.step rfl ?_
    refine RP.step rfl ?_
    exact RP.ret rfl ⟨rfl, rfl⟩
theorem m_ne_iff {x y : Int32} : m_cmp .ne x y = true ↔ ¬ x = y := ⟨fun h => of_decide_eq_true h, fun h => decide_eq_true h⟩

theorem y_type_0 (b : Int32) (h : MH) (gh : gH HM h) (hb1 : 0 ≤ b.toInt) (hb2 : b.toInt ≤ 255) (hroom : (typ h 0).toInt ≤ 23) : RP m_X7_type 0 (m_ent 3 [.ref 123, .int 0, .int b]) [] h (fun r h1 => (typ h 0 = 23 ∧ TnP h r h1 (-4) (typ h)) ∨ (¬ typ h 0 = 23 ∧ TnP h r h1 (typ h 0 + 1) (fun k => if k = 0 then typ h 0 + 1 else typ h k))) := by
  have z0 : (0 : Int32).toInt = 0 := by decide
  have z5 : (255 : Int32).toInt = 255 := by decide
  have zr : (23 : Int32).toInt = 23 := by decide
  have hfa : HM[124]? = some (.inl (0, 3, 0, 24, true)) := rfl
  have j1 : (0 : Int) ≤ (0 : Int32).toInt := by decide
  have j2 : (0 : Int32).toInt < ((3 : Nat) : Int) := by decide
  refine RP.step rfl ?_
  refine c_isText (v := 0) rfl (fun q1 q2 => ?_) (fun q => absurd ⟨by decide, by decide⟩ q)
  refine RP.step rfl ?_
  refine RP.step rfl ?_
  refine RP.step rfl ?_
  refine RP.step rfl ?_
  refine c_in (v := b) (a := 0) (b := 255) rfl (fun q3 q4 => ?_) (fun q => absurd ⟨by omega, by omega⟩ q)
  refine RP.step rfl ?_
  refine RP.step rfl ?_
  refine RP.getR rfl gh rfl ?_
  refine RP.step rfl ?_
  refine RP.ald (t := 0) rfl (Or.inl rfl) gh hfa j1 j2 (fun r1 r2 => ?_)
  have l1 : (0 : Int) ≤ (typ h 0).toInt := r1
  refine RP.step rfl ?_
  refine RP.step rfl ?_
  refine RP.step rfl ?_
  refine RP.step rfl ?_
  refine RP.icmp (x := typ h 0) (y := 23) rfl (fun c1 => ?_) (fun c1 => ?_)
  · have hne : ¬ typ h 0 = 23 := m_ne_iff.mp c1
    have hlt : (typ h 0).toInt < 23 := by
      have : ¬ (typ h 0).toInt = 23 := fun q => hne (Int32.toInt_inj.mp (q.trans zr.symm))
      omega
    have s1 : (1 : Int32).toInt = 1 := by decide
    have ls : (typ h 0 + 1).toInt = (typ h 0).toInt + 1 := (i32_add (by omega) (by omega)).trans (by omega)
    have hft : HM[125]? = some (.inl (0, 72, -2147483648, 2147483647, true)) := rfl
    have s24 : ((24 : Int32) * 0).toInt = 0 := by decide
    have li : ((24 : Int32) * 0 + typ h 0).toInt = 0 + (typ h 0).toInt := (i32_add (by omega) (by omega)).trans (by omega)
    refine RP.step rfl ?_
    refine RP.getR rfl gh rfl ?_
    refine RP.step rfl ?_
    refine RP.step rfl ?_
    refine RP.step rfl ?_
    refine RP.step rfl ?_
    refine RP.getR rfl gh rfl ?_
    refine RP.step rfl ?_
    refine RP.ald (t := 0) rfl (Or.inl rfl) gh hfa j1 j2 (fun r3 r4 => ?_)
    refine RP.step rfl ?_
    refine RP.step rfl ?_
    refine RP.ast (j := 24 * 0 + typ h 0) (x := b) rfl gh hft (by omega) (by show _ < ((72 : Nat) : Int); omega) ?_
    have zi := z_nat (j := 24 * 0 + typ h 0) (by omega)
    obtain ⟨ga, -, -⟩ := setA_sp (j := ((24 : Int32) * 0 + typ h 0).toNatClampNeg) (x := b) gh hft (by omega) (i32_ge b) (i32_le b)
    have et : ∀ k, aI (setA h 125 ((24 : Int32) * 0 + typ h 0).toNatClampNeg b) 124 k = typ h k := fun k => aI_cong (setA_ne (by decide))
    refine RP.step rfl ?_
    refine RP.getR rfl ga rfl ?_
    refine RP.step rfl ?_
    refine RP.step rfl ?_
    refine RP.ald (t := 0) rfl (Or.inl rfl) ga hfa j1 j2 (fun r5 r6 => ?_)
    refine RP.step rfl ?_
    refine RP.step rfl ?_
    show RP m_X7_type _ _ (Value.int (aI (setA h 125 ((24 : Int32) * 0 + typ h 0).toNatClampNeg b) 124 0 + 1) :: _) _ _
    rw [et]
    refine RP.ast (j := 0) (x := typ h 0 + 1) rfl ga hfa j1 j2 ?_
    obtain ⟨gb, e1, e2⟩ := setA_sp (j := 0) (x := typ h 0 + 1) ga hfa (by omega) (by omega) (by omega)
    refine RP.step rfl ?_
    refine RP.getR rfl gb rfl ?_
    refine RP.step rfl ?_
    refine RP.ald (t := 0) rfl (Or.inl rfl) gb hfa j1 j2 (fun r7 r8 => ?_)
    refine RP.ret rfl (Or.inr ⟨hne, gb, fun a ha => (setA_ne (by omega)).trans (setA_ne (by omega)), congrArg (fun z => some (Value.int z)) e1, fun k hk => ?_⟩)
    dsimp only
    by_cases e : k = 0
    · rw [if_pos e, e]; exact e1
    · rw [if_neg e]; exact (e2 k e).trans (et k)
  · have he : typ h 0 = 23 := Classical.not_not.mp (m_ff m_ne_iff c1)
    refine RP.step rfl ?_
    exact RP.ret rfl (Or.inl ⟨he, gh, sameTo.rf _ h, rfl, fun k hk => rfl⟩)

theorem y_type_1 (b : Int32) (h : MH) (gh : gH HM h) (hb1 : 0 ≤ b.toInt) (hb2 : b.toInt ≤ 255) (hroom : (typ h 1).toInt ≤ 24) : RP m_X7_type 0 (m_ent 3 [.ref 123, .int 1, .int b]) [] h (fun r h1 => (typ h 1 = 24 ∧ TnP h r h1 (-4) (typ h)) ∨ (¬ typ h 1 = 24 ∧ TnP h r h1 (typ h 1 + 1) (fun k => if k = 1 then typ h 1 + 1 else typ h k))) := by
  have z0 : (0 : Int32).toInt = 0 := by decide
  have z5 : (255 : Int32).toInt = 255 := by decide
  have zr : (24 : Int32).toInt = 24 := by decide
  have hfa : HM[124]? = some (.inl (0, 3, 0, 24, true)) := rfl
  have j1 : (0 : Int) ≤ (1 : Int32).toInt := by decide
  have j2 : (1 : Int32).toInt < ((3 : Nat) : Int) := by decide
  refine RP.step rfl ?_
  refine c_isText (v := 1) rfl (fun q1 q2 => ?_) (fun q => absurd ⟨by decide, by decide⟩ q)
  refine RP.step rfl ?_
  refine RP.step rfl ?_
  refine RP.step rfl ?_
  refine RP.step rfl ?_
  refine c_in (v := b) (a := 0) (b := 255) rfl (fun q3 q4 => ?_) (fun q => absurd ⟨by omega, by omega⟩ q)
  refine RP.step rfl ?_
  refine RP.step rfl ?_
  refine RP.getR rfl gh rfl ?_
  refine RP.step rfl ?_
  refine RP.ald (t := 0) rfl (Or.inl rfl) gh hfa j1 j2 (fun r1 r2 => ?_)
  have l1 : (0 : Int) ≤ (typ h 1).toInt := r1
  refine RP.step rfl ?_
  refine RP.step rfl ?_
  refine RP.step rfl ?_
  refine RP.icmp (x := typ h 1) (y := 24) rfl (fun c1 => ?_) (fun c1 => ?_)
  · have hne : ¬ typ h 1 = 24 := m_ne_iff.mp c1
    have hlt : (typ h 1).toInt < 24 := by
      have : ¬ (typ h 1).toInt = 24 := fun q => hne (Int32.toInt_inj.mp (q.trans zr.symm))
      omega
    have s1 : (1 : Int32).toInt = 1 := by decide
    have ls : (typ h 1 + 1).toInt = (typ h 1).toInt + 1 := (i32_add (by omega) (by omega)).trans (by omega)
    have hft : HM[125]? = some (.inl (0, 72, -2147483648, 2147483647, true)) := rfl
    have s24 : ((24 : Int32) * 1).toInt = 24 := by decide
    have li : ((24 : Int32) * 1 + typ h 1).toInt = 24 + (typ h 1).toInt := (i32_add (by omega) (by omega)).trans (by omega)
    refine RP.step rfl ?_
    refine RP.getR rfl gh rfl ?_
    refine RP.step rfl ?_
    refine RP.step rfl ?_
    refine RP.step rfl ?_
    refine RP.step rfl ?_
    refine RP.getR rfl gh rfl ?_
    refine RP.step rfl ?_
    refine RP.ald (t := 0) rfl (Or.inl rfl) gh hfa j1 j2 (fun r3 r4 => ?_)
    refine RP.step rfl ?_
    refine RP.step rfl ?_
    refine RP.ast (j := 24 * 1 + typ h 1) (x := b) rfl gh hft (by omega) (by show _ < ((72 : Nat) : Int); omega) ?_
    have zi := z_nat (j := 24 * 1 + typ h 1) (by omega)
    obtain ⟨ga, -, -⟩ := setA_sp (j := ((24 : Int32) * 1 + typ h 1).toNatClampNeg) (x := b) gh hft (by omega) (i32_ge b) (i32_le b)
    have et : ∀ k, aI (setA h 125 ((24 : Int32) * 1 + typ h 1).toNatClampNeg b) 124 k = typ h k := fun k => aI_cong (setA_ne (by decide))
    refine RP.step rfl ?_
    refine RP.getR rfl ga rfl ?_
    refine RP.step rfl ?_
    refine RP.step rfl ?_
    refine RP.ald (t := 0) rfl (Or.inl rfl) ga hfa j1 j2 (fun r5 r6 => ?_)
    refine RP.step rfl ?_
    refine RP.step rfl ?_
    show RP m_X7_type _ _ (Value.int (aI (setA h 125 ((24 : Int32) * 1 + typ h 1).toNatClampNeg b) 124 1 + 1) :: _) _ _
    rw [et]
    refine RP.ast (j := 1) (x := typ h 1 + 1) rfl ga hfa j1 j2 ?_
    obtain ⟨gb, e1, e2⟩ := setA_sp (j := 1) (x := typ h 1 + 1) ga hfa (by omega) (by omega) (by omega)
    refine RP.step rfl ?_
    refine RP.getR rfl gb rfl ?_
    refine RP.step rfl ?_
    refine RP.ald (t := 0) rfl (Or.inl rfl) gb hfa j1 j2 (fun r7 r8 => ?_)
    refine RP.ret rfl (Or.inr ⟨hne, gb, fun a ha => (setA_ne (by omega)).trans (setA_ne (by omega)), congrArg (fun z => some (Value.int z)) e1, fun k hk => ?_⟩)
    dsimp only
    by_cases e : k = 1
    · rw [if_pos e, e]; exact e1
    · rw [if_neg e]; exact (e2 k e).trans (et k)
  · have he : typ h 1 = 24 := Classical.not_not.mp (m_ff m_ne_iff c1)
    refine RP.step rfl ?_
    exact RP.ret rfl (Or.inl ⟨he, gh, sameTo.rf _ h, rfl, fun k hk => rfl⟩)

theorem y_type_2 (b : Int32) (h : MH) (gh : gH HM h) (hb1 : 0 ≤ b.toInt) (hb2 : b.toInt ≤ 255) (hroom : (typ h 2).toInt ≤ 24) : RP m_X7_type 0 (m_ent 3 [.ref 123, .int 2, .int b]) [] h (fun r h1 => (typ h 2 = 24 ∧ TnP h r h1 (-4) (typ h)) ∨ (¬ typ h 2 = 24 ∧ TnP h r h1 (typ h 2 + 1) (fun k => if k = 2 then typ h 2 + 1 else typ h k))) := by
  have z0 : (0 : Int32).toInt = 0 := by decide
  have z5 : (255 : Int32).toInt = 255 := by decide
  have zr : (24 : Int32).toInt = 24 := by decide
  have hfa : HM[124]? = some (.inl (0, 3, 0, 24, true)) := rfl
  have j1 : (0 : Int) ≤ (2 : Int32).toInt := by decide
  have j2 : (2 : Int32).toInt < ((3 : Nat) : Int) := by decide
  refine RP.step rfl ?_
  refine c_isText (v := 2) rfl (fun q1 q2 => ?_) (fun q => absurd ⟨by decide, by decide⟩ q)
  refine RP.step rfl ?_
  refine RP.step rfl ?_
  refine RP.step rfl ?_
  refine RP.step rfl ?_
  refine c_in (v := b) (a := 0) (b := 255) rfl (fun q3 q4 => ?_) (fun q => absurd ⟨by omega, by omega⟩ q)
  refine RP.step rfl ?_
  refine RP.step rfl ?_
  refine RP.getR rfl gh rfl ?_
  refine RP.step rfl ?_
  refine RP.ald (t := 0) rfl (Or.inl rfl) gh hfa j1 j2 (fun r1 r2 => ?_)
  have l1 : (0 : Int) ≤ (typ h 2).toInt := r1
  refine RP.step rfl ?_
  refine RP.step rfl ?_
  refine RP.step rfl ?_
  refine RP.icmp (x := typ h 2) (y := 24) rfl (fun c1 => ?_) (fun c1 => ?_)
  · have hne : ¬ typ h 2 = 24 := m_ne_iff.mp c1
    have hlt : (typ h 2).toInt < 24 := by
      have : ¬ (typ h 2).toInt = 24 := fun q => hne (Int32.toInt_inj.mp (q.trans zr.symm))
      omega
    have s1 : (1 : Int32).toInt = 1 := by decide
    have ls : (typ h 2 + 1).toInt = (typ h 2).toInt + 1 := (i32_add (by omega) (by omega)).trans (by omega)
    have hft : HM[125]? = some (.inl (0, 72, -2147483648, 2147483647, true)) := rfl
    have s24 : ((24 : Int32) * 2).toInt = 48 := by decide
    have li : ((24 : Int32) * 2 + typ h 2).toInt = 48 + (typ h 2).toInt := (i32_add (by omega) (by omega)).trans (by omega)
    refine RP.step rfl ?_
    refine RP.getR rfl gh rfl ?_
    refine RP.step rfl ?_
    refine RP.step rfl ?_
    refine RP.step rfl ?_
    refine RP.step rfl ?_
    refine RP.getR rfl gh rfl ?_
    refine RP.step rfl ?_
    refine RP.ald (t := 0) rfl (Or.inl rfl) gh hfa j1 j2 (fun r3 r4 => ?_)
    refine RP.step rfl ?_
    refine RP.step rfl ?_
    refine RP.ast (j := 24 * 2 + typ h 2) (x := b) rfl gh hft (by omega) (by show _ < ((72 : Nat) : Int); omega) ?_
    have zi := z_nat (j := 24 * 2 + typ h 2) (by omega)
    obtain ⟨ga, -, -⟩ := setA_sp (j := ((24 : Int32) * 2 + typ h 2).toNatClampNeg) (x := b) gh hft (by omega) (i32_ge b) (i32_le b)
    have et : ∀ k, aI (setA h 125 ((24 : Int32) * 2 + typ h 2).toNatClampNeg b) 124 k = typ h k := fun k => aI_cong (setA_ne (by decide))
    refine RP.step rfl ?_
    refine RP.getR rfl ga rfl ?_
    refine RP.step rfl ?_
    refine RP.step rfl ?_
    refine RP.ald (t := 0) rfl (Or.inl rfl) ga hfa j1 j2 (fun r5 r6 => ?_)
    refine RP.step rfl ?_
    refine RP.step rfl ?_
    show RP m_X7_type _ _ (Value.int (aI (setA h 125 ((24 : Int32) * 2 + typ h 2).toNatClampNeg b) 124 2 + 1) :: _) _ _
    rw [et]
    refine RP.ast (j := 2) (x := typ h 2 + 1) rfl ga hfa j1 j2 ?_
    obtain ⟨gb, e1, e2⟩ := setA_sp (j := 2) (x := typ h 2 + 1) ga hfa (by omega) (by omega) (by omega)
    refine RP.step rfl ?_
    refine RP.getR rfl gb rfl ?_
    refine RP.step rfl ?_
    refine RP.ald (t := 0) rfl (Or.inl rfl) gb hfa j1 j2 (fun r7 r8 => ?_)
    refine RP.ret rfl (Or.inr ⟨hne, gb, fun a ha => (setA_ne (by omega)).trans (setA_ne (by omega)), congrArg (fun z => some (Value.int z)) e1, fun k hk => ?_⟩)
    dsimp only
    by_cases e : k = 2
    · rw [if_pos e, e]; exact e1
    · rw [if_neg e]; exact (e2 k e).trans (et k)
  · have he : typ h 2 = 24 := Classical.not_not.mp (m_ff m_ne_iff c1)
    refine RP.step rfl ?_
    exact RP.ret rfl (Or.inl ⟨he, gh, sameTo.rf _ h, rfl, fun k hk => rfl⟩)
