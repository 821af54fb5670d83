/-! digest, best and river: the same answers, with no rowers -/
theorem atR (y : SG) (a c : Int32) : (F_atOf y a c).2 = F_runsTold y := by
  unfold F_atOf
  generalize F_runsTold y = z
  dsimp only
  cases m_cmp .eq c 0 <;> cases m_cmp .eq c 1 <;> cases m_cmp .eq c 2 <;> cases m_cmp .eq c 3 <;> rfl
theorem val_atZ {h : MH} (hJ : JK h) (hz : cI h 10 0 = 0) (a c : Int32) (g1 : bl a 24 = true) (g2 : bl c 5 = true) (y : SG) (g : gdM (cI h) y) : UP m_X7_atOf 0 (m_ent 3 [.ref 123, .int a, .int c]) [] y (fun r s1 => r = some (.int (F_cat (cI h) a c).1) ∧ gdM (cI h) s1 ∧ s1 123 2 = 0) := by
  refine UP.mono (UP.and ((val_at hJ a c g1 g2).2 y g) (ux_atOf y a c)) (fun r s1 z => ⟨z.1.1, z.1.2, ?_⟩)
  rw [z.2.2, atR]
  exact (rt g.1.1).2.trans ((g.2 10 0 rfl).trans hz)
theorem dig0 {h : MH} (hJ : JK h) (hz : cI h 10 0 = 0) : ∃ D, (∀ s, gdC (cI h) s → UP m_X6_digest 0 (m_ent 4 [.ref 0]) [] s (PoC (cI h) D)) ∧ ∀ y, gdM (cI h) y → UP m_X7_digest 0 (m_ent 4 [.ref 123]) [] y (PoM (cI h) D) := by
  obtain ⟨kh, Hh⟩ := val_chance hJ
  obtain ⟨p0, p1, P0, P1, PM⟩ := val_spare hJ
  have B := val_best hz
  exact ⟨_, fun s g => dC_digest (kn := fun a => F_ccount (cI h) a) (kf := fun a => F_cfault (cI h) a) (kc := fun a c => F_ccall (cI h) a c) (ka := fun a c => (F_cat (cI h) a c).1) (ks := fun a c => (F_csteer (cI h) a c).1) (kk := fun a c => (F_cstroke (cI h) a c).1) (kh := kh) (kt := (F_cthere (cI h)).1) (kg := fun a => (F_cgrounded (cI h) a).1) (ky := fun a => (F_cstray (cI h) a).1) (ki := (F_cidle (cI h)).1) (kw := fun a => (F_cswap (cI h) a).1) (p0 := p0) (p1 := p1) (kv := (F_cnever (cI h)).1) (ke := fun a => (F_cyears (cI h) 7 18 a).1) (fun a _ => (val_count hJ a).1) (fun a q => (val_fault hJ a q).1) (fun a c q w => (val_call hJ a c q w).1) (fun a c q w => (val_at hJ a c q w).1) (fun a c q w => (val_steer hJ a c q w).1) (fun a c q w => (val_stroke hJ a c q w).1) (fun a c q w => (Hh a c q w).1) (val_there hJ).1 (fun a q => (val_grounded hJ a q).1) (fun a q => (val_stray hJ a q).1) B.1 (val_idle hJ).1 (fun a q => (val_swap hJ a q).1) P0 P1 (val_never hJ).1 (fun a q => (val_years hJ 7 18 a (by decide) q).1) hz s g, fun y g => dM_digest (kn := fun a => F_ccount (cI h) a) (kf := fun a => F_cfault (cI h) a) (kc := fun a c => F_ccall (cI h) a c) (ka := fun a c => (F_cat (cI h) a c).1) (ks := fun a c => (F_csteer (cI h) a c).1) (kk := fun a c => (F_cstroke (cI h) a c).1) (kh := kh) (kt := (F_cthere (cI h)).1) (kg := fun a => (F_cgrounded (cI h) a).1) (ky := fun a => (F_cstray (cI h) a).1) (ki := (F_cidle (cI h)).1) (kw := fun a => (F_cswap (cI h) a).1) (p0 := p0) (p1 := p1) (kv := (F_cnever (cI h)).1) (ke := fun a => (F_cyears (cI h) 7 18 a).1) (fun a _ => (val_count hJ a).2) (fun a q => (val_fault hJ a q).2) (fun a c q w => (val_call hJ a c q w).2) (fun a c q w => val_atZ hJ hz a c q w) (fun a c q w => (val_steer hJ a c q w).2) (fun a c q w => (val_stroke hJ a c q w).2) (fun a c q w => (Hh a c q w).2) (val_there hJ).2 (fun a q => (val_grounded hJ a q).2) (fun a q => (val_stray hJ a q).2) B.2 (val_idle hJ).2 (fun a q => (val_swap hJ a q).2) PM (val_never hJ).2 (fun a q => (val_years hJ 7 18 a (by decide) q).2) y g⟩
theorem pe_digest {h : MH} (hJ : JK h) (hz : cI h 10 0 = 0) (p : PairOK J1 TL 77 185 [] h) : PairOK JK TEl 77 185 [] h := by
  obtain ⟨D, d1, d2⟩ := dig0 hJ hz
  exact PairOK.up (K := KF) (T' := TEl) (M1 := m_X6_digest) (M2 := m_X7_digest) (QX := PoC (cI h) D) (QY := fun _ _ => PoM (cI h) D) p hJ.1 rfl rfl (by decide) (by decide) (d1 (cI h) ⟨hJ.2, Ag.rf _ _, fun _ _ _ => rfl⟩) (fun r s1 q => d2 s1 ⟨q.2.1, q.2.2.1⟩) (fun r s1 r2 h2 q w _ _ => ⟨⟨D, q.1, w.1⟩, w.2.1⟩)
theorem pe_best {h : MH} (hJ : JK h) (hz : cI h 10 0 = 0) (p : PairOK J1 TA 49 143 [] h) : PairOK JK TE 49 143 [] h := by
  refine PairOK.up (K := KF) (T' := TE) (M1 := m_X6_best) (M2 := m_X7_best) (QX := fun r s1 => r = some (.int (-1)) ∧ gdC (cI h) s1) (QY := fun _ s1 => Qb (F_best s1)) p hJ.1 rfl rfl (by decide) (by decide) ((val_best hz).1 (cI h) ⟨hJ.2, Ag.rf _ _, fun _ _ _ => rfl⟩) (fun r s1 q => ux_best s1) (fun r s1 r2 h2 q w _ _ => ⟨⟨-1, q.1, ?_⟩, ?_⟩)
  · have e : (F_best s1).1 = (F_bestOf s1).1 := rfl
    rw [w.1, e, best0 hz ⟨q.2.1, q.2.2.1⟩]
  · rw [w.2]
    exact q.2.1.ag ((fr_best s1).ag DF rfl)
theorem e_river {s : SG} (h : KF s) (w v : Int32) : (F_criver s w v).1 = (F_river (F_criver s w v).2 w v).1 := by
  obtain ⟨⟨hU, hC, hE, hS, hH⟩, hX⟩ := h
  obtain ⟨E1, E2, E3, E4, E5, E6, E7⟩ := hE
  by_cases e0 : w = 0
  · subst e0
    have eC : F_criver s 0 v = bif m_cmp .ne (F_isBelow s v 10) 0 then (s 10 5, F_mark (uset s 10 5 v)) else ((-2), s) := rfl
    have eM : ∀ y, F_river y 0 v = bif m_cmp .eq (F_in y v 0 9) 0 then ((-2), y) else (y 123 9, uset (uset y 123 9 v) 123 10 (y 123 10)) := fun _ => rfl
    rw [eC, bl_n]
    cases q : bl v 10 with
    | false => rw [kF, mkF, mkS, eM, in_e s v 9 10 rfl, q, lF, kT]
    | true =>
      have fu : Fr [(10, 10, some 5)] s (uset s 10 5 v) := Fr.uset rfl (Fr.rf _ _)
      rw [kT, mkF, mkS, eM, in_e _ v 9 10 rfl, q, lT, kF, mkF, fr_mark _ 123 9 rfl, fu 123 9 rfl]
      exact E6
  · by_cases e1 : w = 1
    · subst e1
      have eC : F_criver s 1 v = F_tellHome s v := rfl
      have eH : F_tellHome s v = bif m_cmp .lt v 50 then (((-2), s)) else (bif m_cmp .le v 999 then (s 10 6, F_mark (uset s 10 6 v)) else (((-2), s))) := rfl
      have eM : ∀ y, F_river y 1 v = bif m_cmp .ne (F_in y v 50 999) 0 then (y 123 10, uset (uset y 123 9 (y 123 9)) 123 10 v) else ((-2), y) := fun _ => rfl
      have eI : ∀ y, m_cmp .ne (F_in y v 50 999) 0 = bif m_cmp .lt v 50 then false else m_cmp .le v 999 := fun y => by
        unfold F_in
        dsimp only
        rw [gt_le]
        cases m_cmp .lt v 50
        · cases m_cmp .le v 999 <;> rfl
        · rfl
      rw [eC, eH]
      cases q : m_cmp .lt v 50 with
      | true => rw [kT, mkF, mkS, eM, eI, q, kT, kF]
      | false =>
        cases q2 : m_cmp .le v 999 with
        | false => rw [kF, kF, mkF, mkS, eM, eI, q, q2, kF, kF]
        | true =>
          have fu : Fr [(10, 10, some 6)] s (uset s 10 6 v) := Fr.uset rfl (Fr.rf _ _)
          rw [kF, kT, mkF, mkS, eM, eI, q, q2, kF, kT, mkF, fr_mark _ 123 10 rfl, fu 123 10 rfl]
          exact E7
    · have eC : F_criver s w v = ((-2), s) := by
        have a : m_cmp .ne w 0 = true := m_ne_iff.mpr e0
        have b : m_cmp .ne w 1 = true := m_ne_iff.mpr e1
        dsimp only [F_criver]
        rw [a, b, kT, kT]
      have hb : bl w 2 = false := by
        cases q : bl w 2 with
        | false => rfl
        | true =>
          rcases bl_2.mp q with x | x
          · exact absurd x e0
          · exact absurd x e1
      have eM : F_river s w v = ((-2), s) := by
        dsimp only [F_river]
        rw [is2_e, hb, lF, kT]
      rw [eC, mkS, eM]
theorem pe_river {h : MH} (hJ : JK h) (a b : Int32) (p : PairOK J1 TA 37 118 [.int a, .int b] h) : PairOK JK TE 37 118 [.int a, .int b] h := up_q (M1 := m_X6_river) (M2 := m_X7_river) (c := F_criver (cI h) a b) (m := fun y => F_river y a b) p hJ rfl rfl (by decide) (by decide) (ux_criver _ a b) (ux_river _ a b) ⟨k_river hJ.2 a b, e_river hJ.2 a b⟩
theorem h0_z : cI h0 10 0 = 0 := by decide +kernel
