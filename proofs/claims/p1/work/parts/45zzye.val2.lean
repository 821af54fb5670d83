/-! chance, spare, best in a digest -/
theorem val_chance {h : MH} (hJ : JK h) : ∃ kh : Int32 → Int32 → Int64, ∀ (a b : Int32), bl a 24 = true → bl b 2 = true → VC (cI h) m_X6_chance [.int 5, .int a, .int b] (.long (kh a b)) ∧ VM (cI h) m_X7_chanceOf [.int 5, .int a, .int b] (.long (kh a b)) := by
  have E := hJ.2.1.2.2.1
  obtain ⟨N, hN, eN⟩ := lenO E.2.1 E.2.2.1
  refine ⟨fun a b => chA (cI h) N 5 a b, fun a b g1 g2 => ?_⟩
  have eA : ∀ s, Ag DG (cI h) s → chA s N 5 a b = chA (cI h) N 5 a b := fun s q => by
    have e : agB s = agB (cI h) := by
      funext mi m
      unfold agB
      rw [inC_ag (q.sub rfl)]
    have e2 : gN s = gN (cI h) := by
      funext N C mi m
      unfold gN
      rw [e]
    unfold chA
    rw [e2]
  refine ⟨fun s g => ?_, fun y g => ?_⟩
  · refine ((ux_chanceC g.1 hN (n23 eN g.2.1) 5 a b).and (EL_chance (bb := cI h) g.2.2 5 a b)).mono (fun r s1 z => ?_)
    obtain ⟨⟨z1, z2, z3⟩, z4⟩ := z
    exact ⟨by rw [z1, eA s g.2.1], z2, g.2.1.tr z3, z4.2⟩
  · have e5 : chA y N 5 a b = anC b (hv 32 (smN (gN y N 5 a) (2 ^ N)) (2 ^ (4 * N))) := by
      unfold chA okC
      rw [show bl 5 17 = true by decide, g1, g2, kT, kT, kT, show (5 : Int32).toNatClampNeg = 5 by decide]
    refine (ux_chOf (C := 5) g.1.1 hN (n23 eN g.2) (by decide) a b).mono (fun r s1 z => ?_)
    obtain ⟨z1, x, z2⟩ := z
    have f := z2.2.2.2.2.2
    exact ⟨by rw [z1, ← e5, eA y g.2], g.1.ag (f.ag DF rfl), g.2.tr ((f.ag DF rfl).sub rfl)⟩
theorem ofR1 (s : SG) (n : Int32) : F_ofRow s n (-1) = n := by
  unfold F_ofRow
  rw [show m_cmp .ne (-1 : Int32) (-1) = false by decide, kF]
theorem val_spare {h : MH} (hJ : JK h) : ∃ v w, VC (cI h) m_X6_spare [.int (-1)] (.int v) ∧ VC (cI h) m_X6_spare [.int 0] (.int w) ∧ ∀ y, gdM (cI h) y → UP m_X7_spareBy 0 (m_ent 3 [.ref 123]) [] y (fun r s1 => r = some (.int v) ∧ gdM (cI h) s1 ∧ F_ofRow s1 v 0 = w) := by
  have E := hJ.2.1.2.2.1
  obtain ⟨N, hN, eN⟩ := lenO E.2.1 E.2.2.1
  have eR : ∀ s, Ag DG (cI h) s → rS s N = rS (cI h) N := fun s q => by
    have e : agN s = agN (cI h) := by
      funext m
      unfold agN
      rw [inC_ag (q.sub rfl)]
    unfold rS
    rw [e]
  have k2 := rS_ok (cI h) N
  have C : ∀ i, okI i = true → VC (cI h) m_X6_spare [.int i] (.int (svC (rS (cI h) N) i)) := fun i hi s g => by
    refine ((ux_spareC g.1 hN (n23 eN g.2.1) i).and (EI_spare (bb := cI h) g.2.2 i)).mono (fun r s1 z => ?_)
    obtain ⟨⟨z1, z2, z3⟩, z4⟩ := z
    exact ⟨by rw [z1, eR s g.2.1, hi, kT], z2, g.2.1.tr z3, z4.2⟩
  refine ⟨svC (rS (cI h) N) (-1), svC (rS (cI h) N) 0, C (-1) (by decide), C 0 (by decide), fun y g => ?_⟩
  refine (ux_spareBy g.1.1 hN (n23 eN g.2)).mono (fun r s1 z => ?_)
  obtain ⟨z1, pl, x, z2⟩ := z
  rw [eR y g.2] at z1 pl
  generalize rS (cI h) N = r0 at *
  have f := z2.2.2.2.2.2
  have ev : svC r0 (-1) = enMs r0 := (svE hN k2 pl (i := -1) (by decide)).trans (ofR1 _ _)
  rw [ev]
  exact ⟨z1, ⟨g.1.ag (f.ag DF rfl), g.2.tr ((f.ag DF rfl).sub rfl)⟩, (svE hN k2 pl (i := 0) (by decide)).symm⟩
theorem best0 {h : MH} (hz : cI h 10 0 = 0) {y : SG} (g : gdM (cI h) y) : (F_bestOf y).1 = -1 := by
  have e : F_runsTold y 123 2 = 0 := (rt g.1.1).2.trans ((g.2 10 0 rfl).trans hz)
  have n0 : (0 : Int32).toNatClampNeg = 0 := by decide
  unfold F_bestOf
  dsimp only
  rw [e, n0, itr_z]
theorem val_best {h : MH} (hz : cI h 10 0 = 0) : VC (cI h) m_X6_best [] (.int (-1)) ∧ VM (cI h) m_X7_bestOf [] (.int (-1)) := by
  have n0 : (0 : Int32).toNatClampNeg = 0 := by decide
  refine ⟨fun s g => ?_, fun y g => ?_⟩
  · refine (ux_cbest s).mono (fun r s1 z => ?_)
    obtain ⟨k1, -, k3⟩ := tt g.1
    have e : F_toldTrip s 10 0 = 0 := (k3 10 0 rfl).trans ((g.2.1 10 0 rfl).trans hz)
    have e1 : (F_cbest s).1 = itr (B_cbest_7 (F_toldTrip s)) 0 ((F_toldTrip s 10 0).toNatClampNeg) (-1) := rfl
    have e2 : (F_cbest s).2 = F_toldTrip s := rfl
    rw [e, n0, itr_z] at e1
    refine ⟨by rw [z.1, e1], ?_⟩
    have z2 := z.2
    rw [z2]
    exact ⟨by rw [e2]; exact k1, by rw [e2]; exact g.2.1.tr k3, g.2.2.tr ((fr_cbest s).mo rfl)⟩
  · refine (ux_bestOf y).mono (fun r s1 z => ?_)
    have e1 := best0 hz g
    have f := (fr_bestOf y).ag DF rfl
    refine ⟨by rw [z.1, e1], ?_⟩
    have z2 := z.2
    rw [z2]
    exact ⟨g.1.ag f, g.2.tr (f.sub rfl)⟩
