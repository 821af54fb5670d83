/-! undo and type of the class -/
theorem RP.alen {M : MM} {i : Nat} {L : ML} {st : List Value} {h : MH} {P : Option Value → MH → Prop} {H : AH} {pc ln : Nat} {ops : List Int} {a n : Nat} {lo hi : Int} {fz : Bool} (hrow : (mc M)[i]? = some (pc, .arraylength, ln, ops)) (gh : gH H h) (hf : H[a]? = some (.inl (0, n, lo, hi, fz))) (k : RP M (i + 1) L (.int (Int32.ofNat n) :: st) h P) : RP M i L (.ref a :: st) h P := by
  obtain ⟨x, hx, l, rfl, hl, -⟩ := gh.2 a _ hf
  refine RP.step ?_ k
  unfold mstep
  rw [hrow]
  show o_len false [] i L (Value.ref a :: st) h = _
  unfold o_len
  dsimp only
  rw [hx]
  show o_nx i L (Value.int (Int32.ofNat l.length) :: st) h = _
  rw [hl]
  rfl
theorem sameFrom.rf (lo : Nat) (h : MH) : sameFrom lo h h := fun _ _ => rfl
theorem m_ne0 {x : Int32} : m_cmp .ne x 0 = true ↔ ¬ x = 0 := ⟨fun h => of_decide_eq_true h, fun h => decide_eq_true h⟩
theorem x_undo_bad (t : Int32) (h : MH) (ht : ¬ (0 ≤ t.toInt ∧ t.toInt < 3)) : RP m_X6_undo 0 (m_ent 2 [.ref 0, .int t]) [] h (fun r h1 => h1 = h ∧ r = some (.int (-2))) := by
  have z3 : (3 : Int32).toInt = 3 := by decide
  refine RP.step rfl ?_
  refine RP.step rfl ?_
  refine c_isBelow (v := t) (n := 3) rfl (fun q1 q2 => absurd ⟨q1, by omega⟩ ht) (fun q => ?_)
  refine RP.step rfl ?_
  refine RP.step rfl ?_
  exact RP.ret rfl ⟨rfl, rfl⟩

theorem x_undo_0 (h : MH) (gh : gH HC h) : RP m_X6_undo 0 (m_ent 2 [.ref 0, .int 0]) [] h (fun r h1 => (len h 0 = 0 ∧ LnP h r h1 (-3) (len h)) ∨ (¬ len h 0 = 0 ∧ LnP h r h1 (len h 0 - 1) (fun k => if k = 0 then len h 0 - 1 else len h k))) := by
  refine RP.step rfl ?_
  refine RP.step rfl ?_
  refine c_isBelow (v := 0) (n := 3) rfl (fun q1 q2 => ?_) (fun q => absurd ⟨by decide, by decide⟩ q)
  refine RP.step rfl ?_
  refine RP.step rfl ?_
  refine RP.getR rfl gh rfl ?_
  refine RP.step rfl ?_
  refine RP.aald rfl gh rfl rfl rfl rfl ?_
  refine RP.getI rfl gh rfl (fun r1 r2 => ?_)
  refine RP.ifc rfl (fun c1 => ?_) (fun c1 => ?_)
  · have hn0 : ¬ len h 0 = 0 := m_ne0.mp c1
    have l1 : (0 : Int) ≤ (len h 0).toInt := r1
    have l2 : (len h 0).toInt ≤ 23 := r2
    have l3 : ¬ (len h 0).toInt = 0 := fun q => hn0 (Int32.toInt_inj.mp (q.trans (by decide)))
    have s1 : (1 : Int32).toInt = 1 := by decide
    have ls : (len h 0 - 1).toInt = (len h 0).toInt - 1 := (i32_sub (by omega) (by omega)).trans (by omega)
    refine RP.step rfl ?_
    refine RP.getR rfl gh rfl ?_
    refine RP.step rfl ?_
    refine RP.aald rfl gh rfl rfl rfl rfl ?_
    refine RP.step rfl ?_
    refine RP.getI rfl gh rfl (fun r3 r4 => ?_)
    refine RP.step rfl ?_
    refine RP.step rfl ?_
    refine RP.putI (x := len h 0 - 1) rfl gh rfl rfl ?_
    have hf : a_fd HC 4 1 109 = some (.inr (0, 23, true)) := rfl
    obtain ⟨g1, e1, -⟩ := setF_sp (x := len h 0 - 1) gh hf (by omega) (by omega)
    obtain ⟨vs, hx⟩ := ob_sp (a := 0) (ci := 6) g1 rfl
    refine RP.step rfl ?_
    refine RP.step rfl ?_
    refine RP.callP (cv_step rfl rfl hx rfl rfl) p_sc8 rfl ⟨⟨0, rfl, List.mem_singleton.mpr rfl⟩, ⟨0, rfl, by decide, by decide, fun k d q => by cases q⟩, trivial⟩ (g1.eq eq_HCs) (fun r h2 alt ha gr g2 f2 => ?_)
    have g1s := g1.eq eq_HCs
    have er : r = none := by
      have := List.mem_singleton.mp ha
      subst this
      cases r with
      | none => rfl
      | some v => exact gr.elim
    subst er
    have g2c := g2.eq eq_HCr
    refine RP.step rfl ?_
    refine RP.getR rfl g2c rfl ?_
    refine RP.step rfl ?_
    refine RP.aald rfl g2c rfl rfl rfl rfl ?_
    refine RP.getI rfl g2c rfl (fun r5 r6 => ?_)
    have l0 : len h2 0 = len (setF h 109 1 (len h 0 - 1)) 0 := fI_fz f2 g1s g2 (show a_fd HCs 4 1 109 = some (.inr (0, 23, true)) from rfl)
    have l1 : len h2 1 = len (setF h 109 1 (len h 0 - 1)) 1 := fI_fz f2 g1s g2 (show a_fd HCs 4 1 111 = some (.inr (0, 24, true)) from rfl)
    have l2 : len h2 2 = len (setF h 109 1 (len h 0 - 1)) 2 := fI_fz f2 g1s g2 (show a_fd HCs 4 1 113 = some (.inr (0, 24, true)) from rfl)
    refine RP.ret rfl (Or.inr ⟨hn0, g2c, fun a hb => ?_, ?_, fun k hk => ?_⟩)
    · exact (from_of HCs_len any_Cs f2 g1s g2 a hb).trans (setF_ne (by omega))
    · show some (Value.int (len h2 0)) = _
      rw [l0]
      exact congrArg (fun z => some (Value.int z)) e1
    · match k, hk with
      | 0, _ => exact l0.trans (e1)
      | 1, _ => exact l1.trans (fI_cong (setF_ne (by decide)))
      | 2, _ => exact l2.trans (fI_cong (setF_ne (by decide)))
  · have h0 : len h 0 = 0 := Classical.not_not.mp (m_ff m_ne0 c1)
    refine RP.step rfl ?_
    exact RP.ret rfl (Or.inl ⟨h0, gh, sameFrom.rf _ h, rfl, fun k hk => rfl⟩)

theorem x_undo_1 (h : MH) (gh : gH HC h) : RP m_X6_undo 0 (m_ent 2 [.ref 0, .int 1]) [] h (fun r h1 => (len h 1 = 0 ∧ LnP h r h1 (-3) (len h)) ∨ (¬ len h 1 = 0 ∧ LnP h r h1 (len h 1 - 1) (fun k => if k = 1 then len h 1 - 1 else len h k))) := by
  refine RP.step rfl ?_
  refine RP.step rfl ?_
  refine c_isBelow (v := 1) (n := 3) rfl (fun q1 q2 => ?_) (fun q => absurd ⟨by decide, by decide⟩ q)
  refine RP.step rfl ?_
  refine RP.step rfl ?_
  refine RP.getR rfl gh rfl ?_
  refine RP.step rfl ?_
  refine RP.aald rfl gh rfl rfl rfl rfl ?_
  refine RP.getI rfl gh rfl (fun r1 r2 => ?_)
  refine RP.ifc rfl (fun c1 => ?_) (fun c1 => ?_)
  · have hn0 : ¬ len h 1 = 0 := m_ne0.mp c1
    have l1 : (0 : Int) ≤ (len h 1).toInt := r1
    have l2 : (len h 1).toInt ≤ 24 := r2
    have l3 : ¬ (len h 1).toInt = 0 := fun q => hn0 (Int32.toInt_inj.mp (q.trans (by decide)))
    have s1 : (1 : Int32).toInt = 1 := by decide
    have ls : (len h 1 - 1).toInt = (len h 1).toInt - 1 := (i32_sub (by omega) (by omega)).trans (by omega)
    refine RP.step rfl ?_
    refine RP.getR rfl gh rfl ?_
    refine RP.step rfl ?_
    refine RP.aald rfl gh rfl rfl rfl rfl ?_
    refine RP.step rfl ?_
    refine RP.getI rfl gh rfl (fun r3 r4 => ?_)
    refine RP.step rfl ?_
    refine RP.step rfl ?_
    refine RP.putI (x := len h 1 - 1) rfl gh rfl rfl ?_
    have hf : a_fd HC 4 1 111 = some (.inr (0, 24, true)) := rfl
    obtain ⟨g1, e1, -⟩ := setF_sp (x := len h 1 - 1) gh hf (by omega) (by omega)
    obtain ⟨vs, hx⟩ := ob_sp (a := 0) (ci := 6) g1 rfl
    refine RP.step rfl ?_
    refine RP.step rfl ?_
    refine RP.callP (cv_step rfl rfl hx rfl rfl) p_sc8 rfl ⟨⟨0, rfl, List.mem_singleton.mpr rfl⟩, ⟨1, rfl, by decide, by decide, fun k d q => by cases q⟩, trivial⟩ (g1.eq eq_HCs) (fun r h2 alt ha gr g2 f2 => ?_)
    have g1s := g1.eq eq_HCs
    have er : r = none := by
      have := List.mem_singleton.mp ha
      subst this
      cases r with
      | none => rfl
      | some v => exact gr.elim
    subst er
    have g2c := g2.eq eq_HCr
    refine RP.step rfl ?_
    refine RP.getR rfl g2c rfl ?_
    refine RP.step rfl ?_
    refine RP.aald rfl g2c rfl rfl rfl rfl ?_
    refine RP.getI rfl g2c rfl (fun r5 r6 => ?_)
    have l0 : len h2 0 = len (setF h 111 1 (len h 1 - 1)) 0 := fI_fz f2 g1s g2 (show a_fd HCs 4 1 109 = some (.inr (0, 23, true)) from rfl)
    have l1 : len h2 1 = len (setF h 111 1 (len h 1 - 1)) 1 := fI_fz f2 g1s g2 (show a_fd HCs 4 1 111 = some (.inr (0, 24, true)) from rfl)
    have l2 : len h2 2 = len (setF h 111 1 (len h 1 - 1)) 2 := fI_fz f2 g1s g2 (show a_fd HCs 4 1 113 = some (.inr (0, 24, true)) from rfl)
    refine RP.ret rfl (Or.inr ⟨hn0, g2c, fun a hb => ?_, ?_, fun k hk => ?_⟩)
    · exact (from_of HCs_len any_Cs f2 g1s g2 a hb).trans (setF_ne (by omega))
    · show some (Value.int (len h2 1)) = _
      rw [l1]
      exact congrArg (fun z => some (Value.int z)) e1
    · match k, hk with
      | 0, _ => exact l0.trans (fI_cong (setF_ne (by decide)))
      | 1, _ => exact l1.trans (e1)
      | 2, _ => exact l2.trans (fI_cong (setF_ne (by decide)))
  · have h0 : len h 1 = 0 := Classical.not_not.mp (m_ff m_ne0 c1)
    refine RP.step rfl ?_
    exact RP.ret rfl (Or.inl ⟨h0, gh, sameFrom.rf _ h, rfl, fun k hk => rfl⟩)

theorem x_undo_2 (h : MH) (gh : gH HC h) : RP m_X6_undo 0 (m_ent 2 [.ref 0, .int 2]) [] h (fun r h1 => (len h 2 = 0 ∧ LnP h r h1 (-3) (len h)) ∨ (¬ len h 2 = 0 ∧ LnP h r h1 (len h 2 - 1) (fun k => if k = 2 then len h 2 - 1 else len h k))) := by
  refine RP.step rfl ?_
  refine RP.step rfl ?_
  refine c_isBelow (v := 2) (n := 3) rfl (fun q1 q2 => ?_) (fun q => absurd ⟨by decide, by decide⟩ q)
  refine RP.step rfl ?_
  refine RP.step rfl ?_
  refine RP.getR rfl gh rfl ?_
  refine RP.step rfl ?_
  refine RP.aald rfl gh rfl rfl rfl rfl ?_
  refine RP.getI rfl gh rfl (fun r1 r2 => ?_)
  refine RP.ifc rfl (fun c1 => ?_) (fun c1 => ?_)
  · have hn0 : ¬ len h 2 = 0 := m_ne0.mp c1
    have l1 : (0 : Int) ≤ (len h 2).toInt := r1
    have l2 : (len h 2).toInt ≤ 24 := r2
    have l3 : ¬ (len h 2).toInt = 0 := fun q => hn0 (Int32.toInt_inj.mp (q.trans (by decide)))
    have s1 : (1 : Int32).toInt = 1 := by decide
    have ls : (len h 2 - 1).toInt = (len h 2).toInt - 1 := (i32_sub (by omega) (by omega)).trans (by omega)
    refine RP.step rfl ?_
    refine RP.getR rfl gh rfl ?_
    refine RP.step rfl ?_
    refine RP.aald rfl gh rfl rfl rfl rfl ?_
    refine RP.step rfl ?_
    refine RP.getI rfl gh rfl (fun r3 r4 => ?_)
    refine RP.step rfl ?_
    refine RP.step rfl ?_
    refine RP.putI (x := len h 2 - 1) rfl gh rfl rfl ?_
    have hf : a_fd HC 4 1 113 = some (.inr (0, 24, true)) := rfl
    obtain ⟨g1, e1, -⟩ := setF_sp (x := len h 2 - 1) gh hf (by omega) (by omega)
    obtain ⟨vs, hx⟩ := ob_sp (a := 0) (ci := 6) g1 rfl
    refine RP.step rfl ?_
    refine RP.step rfl ?_
    refine RP.callP (cv_step rfl rfl hx rfl rfl) p_sc8 rfl ⟨⟨0, rfl, List.mem_singleton.mpr rfl⟩, ⟨2, rfl, by decide, by decide, fun k d q => by cases q⟩, trivial⟩ (g1.eq eq_HCs) (fun r h2 alt ha gr g2 f2 => ?_)
    have g1s := g1.eq eq_HCs
    have er : r = none := by
      have := List.mem_singleton.mp ha
      subst this
      cases r with
      | none => rfl
      | some v => exact gr.elim
    subst er
    have g2c := g2.eq eq_HCr
    refine RP.step rfl ?_
    refine RP.getR rfl g2c rfl ?_
    refine RP.step rfl ?_
    refine RP.aald rfl g2c rfl rfl rfl rfl ?_
    refine RP.getI rfl g2c rfl (fun r5 r6 => ?_)
    have l0 : len h2 0 = len (setF h 113 1 (len h 2 - 1)) 0 := fI_fz f2 g1s g2 (show a_fd HCs 4 1 109 = some (.inr (0, 23, true)) from rfl)
    have l1 : len h2 1 = len (setF h 113 1 (len h 2 - 1)) 1 := fI_fz f2 g1s g2 (show a_fd HCs 4 1 111 = some (.inr (0, 24, true)) from rfl)
    have l2 : len h2 2 = len (setF h 113 1 (len h 2 - 1)) 2 := fI_fz f2 g1s g2 (show a_fd HCs 4 1 113 = some (.inr (0, 24, true)) from rfl)
    refine RP.ret rfl (Or.inr ⟨hn0, g2c, fun a hb => ?_, ?_, fun k hk => ?_⟩)
    · exact (from_of HCs_len any_Cs f2 g1s g2 a hb).trans (setF_ne (by omega))
    · show some (Value.int (len h2 2)) = _
      rw [l2]
      exact congrArg (fun z => some (Value.int z)) e1
    · match k, hk with
      | 0, _ => exact l0.trans (fI_cong (setF_ne (by decide)))
      | 1, _ => exact l1.trans (fI_cong (setF_ne (by decide)))
      | 2, _ => exact l2.trans (e1)
  · have h0 : len h 2 = 0 := Classical.not_not.mp (m_ff m_ne0 c1)
    refine RP.step rfl ?_
    exact RP.ret rfl (Or.inl ⟨h0, gh, sameFrom.rf _ h, rfl, fun k hk => rfl⟩)
