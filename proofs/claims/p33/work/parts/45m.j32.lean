/-! THE FOURTH INVARIANT: J1, and the sheets are lost, of a form and of a size alike on both sides -/
theorem PairOK.det {J J' : MH → Prop} {T T' : Option Value → Option Value → Prop} {y1 y2 : Nat} {as : List Value} {h : MH} {M1 M2 : MM} {QX : Option Value → MH → Prop} {QY : Option Value → MH → Option Value → MH → Prop} (p : PairOK J T y1 y2 as h) (e1 : m_tab[y1]? = some M1) (e2 : m_tab[y2]? = some M2) (kx : RP M1 0 (m_ent (mx M1) (.ref 0 :: as)) [] h QX) (km : ∀ r h1, QX r h1 → RP M2 0 (m_ent (mx M2) (.ref 123 :: as)) [] h1 (QY r h1)) (hT : ∀ r h1 r2 h2, QX r h1 → QY r h1 r2 h2 → T r r2 → J h2 → T' r r2 ∧ J' h2) : PairOK J' T' y1 y2 as h := by
  obtain ⟨N1, N2, r, h1, r2, h2, a, b, c, d, e, f, g, k, t, q⟩ := p
  rw [e1] at a
  rw [e2] at b
  cases a
  cases b
  obtain ⟨r', h1', k1, k2⟩ := kx
  have d1 := Rn.det g k1
  cases d1
  obtain ⟨r2', h2', k3, k4⟩ := km r h1 k2
  have d2 := Rn.det k k3
  cases d2
  obtain ⟨t', j'⟩ := hT r h1 r2 h2 k2 k4 t q
  exact ⟨M1, M2, r, h1, r2, h2, e1, e2, c, d, e, f, g, k, t', j'⟩
def K32 (h : MH) : Prop := ∀ q, q < 4 → (lo h q = 0 ↔ ¬ aI h 148 q = 0) ∧ fo h q = aI h 149 q ∧ si h q = aI h 150 q
def J32 (h : MH) : Prop := J1 h ∧ K32 h
theorem J32.c (h : MH) (j : J32 h) : gH HCs h := j.1.1
theorem J32.m (h : MH) (j : J32 h) : gH HMs h := j.1.2.1
theorem K32.sm {h h1 : MH} (k : K32 h) (x : smX h h1) (y : smY h h1) : K32 h1 := fun q hq => by
  rw [(x q hq).1, (x q hq).2.1, (x q hq).2.2, aI_cong y.1, aI_cong y.2.1, aI_cong y.2.2]
  exact k q hq
theorem sh_fC (n : Nat) (hn : n < 4) : a_fd HC 3 1 (115 + 2 * n) = some (.inr (0, 1, true)) ∧ a_fd HC 3 2 (115 + 2 * n) = some (.inr (-2147483648, 2147483647, true)) ∧ a_fd HC 3 3 (115 + 2 * n) = some (.inr (0, 60, true)) := by
  match n, hn with
  | 0, _ => exact ⟨rfl, rfl, rfl⟩
  | 1, _ => exact ⟨rfl, rfl, rfl⟩
  | 2, _ => exact ⟨rfl, rfl, rfl⟩
  | 3, _ => exact ⟨rfl, rfl, rfl⟩
theorem smX_HC {h h1 : MH} (f : fH HC h h1) (g : gH HC h) (g1 : gH HC h1) : smX h h1 := fun q hq => by
  obtain ⟨a, b, c⟩ := sh_fC q hq
  exact ⟨fI_fz f g g1 a, fI_fz f g g1 b, fI_fz f g g1 c⟩
theorem J32_C : Jst J32 HC := fun h h1 j g1 f => ⟨J1_C h h1 j.1 g1 f, j.2.sm (smX_HC f (gH.eq eq_HCr j.1.1) g1) (smY_from (from_of HC_len any_C f (gH.eq eq_HCr j.1.1) g1))⟩
theorem J32_M : Jst J32 HM := fun h h1 j g1 f => ⟨J1_M h h1 j.1 g1 f, j.2.sm (smX_to (to_of any_M f (gH.eq eq_HMr j.1.2.1) g1)) (smY_HM f (gH.eq eq_HMr j.1.2.1) g1)⟩
theorem K32_0 : K32 h0 := by
  intro q hq
  match q, hq with
  | 0, _ => exact ⟨by decide +kernel, by decide +kernel, by decide +kernel⟩
  | 1, _ => exact ⟨by decide +kernel, by decide +kernel, by decide +kernel⟩
  | 2, _ => exact ⟨by decide +kernel, by decide +kernel, by decide +kernel⟩
  | 3, _ => exact ⟨by decide +kernel, by decide +kernel, by decide +kernel⟩
theorem J32_0 : J32 h0 := ⟨J1_0, K32_0⟩
section QXS
variable {M : MM} {i : Nat} {L : ML} {st : List Value} {h : MH}
/-- the class's call: the model's cells stay -/
def QF (h : MH) (_ : Option Value) (h1 : MH) : Prop := gH HMs h1 ∧ sameFrom 123 h h1
theorem QF.s {r : Option Value} {h1 : MH} (hJ : J1 h) (g : gH HCs h1) (f : fH HCs h h1) : QF h r h1 := ⟨(J1_Cs h h1 hJ g f).2.1, from_of HCs_len any_Cs f hJ.1 g⟩
theorem QF.kp {lo hi : Int} (hJ : J1 h) (k : RP M i L st h (KP HCs lo hi h)) : RP M i L st h (QF h) := k.mono (fun _ _ q => QF.s hJ q.1 q.2.1)
theorem QF.l {r : Option Value} {h1 : MH} {v : Int32} {f : Nat → Int32} (hJ : J1 h) (q : LnP h r h1 v f) : QF h r h1 := ⟨q.m hJ.2.1, q.2.1⟩
theorem QF.rf {r : Option Value} (hJ : J1 h) : QF h r h := ⟨hJ.2.1, fun _ _ => rfl⟩
end QXS
theorem qx_wipe (t : Int32) {h : MH} (hJ : J1 h) : RP m_X6_wipe 0 (m_ent 3 [.ref 0, .int t]) [] h (QF h) := by
  by_cases ht : 0 ≤ t.toInt ∧ t.toInt < 3
  · rcases x_012 ht.1 ht.2 with rfl | rfl | rfl
    · exact (x_wipe_0 h (gH.eq eq_HCr hJ.1)).mono (fun r h1 q => QF.l hJ q)
    · exact (x_wipe_1 h (gH.eq eq_HCr hJ.1)).mono (fun r h1 q => QF.l hJ q)
    · exact (x_wipe_2 h (gH.eq eq_HCr hJ.1)).mono (fun r h1 q => QF.l hJ q)
  · exact (x_wipe_bad t h ht).mono (fun r h1 q => by rw [q.1]; exact QF.rf hJ)
theorem qx_undo (t : Int32) {h : MH} (hJ : J1 h) : RP m_X6_undo 0 (m_ent 2 [.ref 0, .int t]) [] h (QF h) := by
  by_cases ht : 0 ≤ t.toInt ∧ t.toInt < 3
  · rcases x_012 ht.1 ht.2 with rfl | rfl | rfl
    · exact (x_undo_0 h (gH.eq eq_HCr hJ.1)).mono (fun r h1 q => q.elim (fun w => QF.l hJ w.2) (fun w => QF.l hJ w.2))
    · exact (x_undo_1 h (gH.eq eq_HCr hJ.1)).mono (fun r h1 q => q.elim (fun w => QF.l hJ w.2) (fun w => QF.l hJ w.2))
    · exact (x_undo_2 h (gH.eq eq_HCr hJ.1)).mono (fun r h1 q => q.elim (fun w => QF.l hJ w.2) (fun w => QF.l hJ w.2))
  · exact (x_undo_bad t h ht).mono (fun r h1 q => by rw [q.1]; exact QF.rf hJ)
theorem qx_type (t b : Int32) {h : MH} (hJ : J1 h) : RP m_X6_type 0 (m_ent 4 [.ref 0, .int t, .int b]) [] h (QF h) := by
  by_cases ht : (0 ≤ t.toInt ∧ t.toInt < 3) ∧ (0 ≤ b.toInt ∧ b.toInt < 256)
  · rcases x_012 ht.1.1 ht.1.2 with rfl | rfl | rfl
    · exact (x_type_0 b h (gH.eq eq_HCr hJ.1) ht.2.1 ht.2.2).mono (fun r h1 q => q.elim (fun w => QF.l hJ w.2) (fun w => QF.l hJ w.2))
    · exact (x_type_1 b h (gH.eq eq_HCr hJ.1) ht.2.1 ht.2.2).mono (fun r h1 q => q.elim (fun w => QF.l hJ w.2) (fun w => QF.l hJ w.2))
    · exact (x_type_2 b h (gH.eq eq_HCr hJ.1) ht.2.1 ht.2.2).mono (fun r h1 q => q.elim (fun w => QF.l hJ w.2) (fun w => QF.l hJ w.2))
  · exact (x_type_bad t b h ht).mono (fun r h1 q => by rw [q.1]; exact QF.rf hJ)
theorem J32.of {T : Option Value → Option Value → Prop} {y1 y2 : Nat} {as : List Value} {h : MH} {ms : List Nat} {M1 M2 : MM} (hJ : J32 h) (p : PairOK J1 T y1 y2 as h) (e1 : m_tab[y1]? = some M1) (e2 : m_tab[y2]? = some M2) (hn : noPut ms bad32 true = true) (m1 : y1 ∈ ms) (m2 : y2 ∈ ms) (kx : RP M1 0 (m_ent (mx M1) (.ref 0 :: as)) [] h (QF h)) (km : ∀ h1, gH HMs h1 → sameFrom 123 h h1 → RP M2 0 (m_ent (mx M2) (.ref 123 :: as)) [] h1 (fun _ h2 => smY h1 h2)) : PairOK J32 T y1 y2 as h :=
  (p.fr hn m1 m2).det e1 e2 kx (fun r h1 q => km h1 q.1 q.2) (fun r h1 r2 h2 q w t j => ⟨t, j.1, hJ.2.sm (smX_fr hJ.1.1 j.2) ((smY_from q.2).tr w)⟩)
theorem typ0_le {h h1 : MH} (hJ : J1 h) (s : sameFrom 123 h h1) : (typ h1 0).toInt ≤ 23 := by
  rw [typ_from s 0, ← hJ.2.2 0 (by decide)]
  obtain ⟨-, -, -, l1, l2⟩ := fI_sp (ci := 4) (k := 1) (a := 109) (lo := 0) (hi := 23) (fz := true) hJ.1 rfl
  exact l2
section P32
variable {xs : List Int32} {j : Int32} {h : MH}
theorem p3_type (hJ : J32 h) : PairOK J32 TE 31 101 (argsOf xs j 2 1) h := J32.of (ms := [2, 3, 4, 16, 17, 18, 31, 82, 86, 87, 92, 96, 101]) (M1 := m_X6_type) (M2 := m_X7_type) hJ (pr_type hJ.1) rfl rfl (by decide +kernel) (by decide) (by decide) (qx_type _ _ hJ.1) (fun h1 g s => ys_type _ _ h1 g (typ0_le hJ.1 s))
theorem p3_wipe (hJ : J32 h) : PairOK J32 TE 32 102 (argsOf xs j 1 1) h := J32.of (ms := [2, 3, 4, 16, 17, 18, 32, 82, 86, 87, 92, 96, 102]) (M1 := m_X6_wipe) (M2 := m_X7_wipe) hJ (pr_wipe hJ.1) rfl rfl (by decide +kernel) (by decide) (by decide) (qx_wipe _ hJ.1) (fun h1 g s => ys_wipe _ h1 g)
theorem p3_undo (hJ : J32 h) : PairOK J32 TE 33 103 (argsOf xs j 1 1) h := J32.of (ms := [2, 3, 4, 16, 17, 18, 33, 82, 86, 87, 92, 96, 103]) (M1 := m_X6_undo) (M2 := m_X7_undo) hJ (pr_undo hJ.1) rfl rfl (by decide +kernel) (by decide) (by decide) (qx_undo _ hJ.1) (fun h1 g s => ys_undo _ h1 g)
theorem p3_river (hJ : J32 h) : PairOK J32 TA 37 118 (argsOf xs j 2 1) h := J32.of (ms := [37, 38, 39, 82, 86, 92, 98, 118]) (M1 := m_X6_river) (M2 := m_X7_river) hJ (pr_river hJ.1) rfl rfl (by decide +kernel) (by decide) (by decide) ((x_river _ _ h hJ.1.1).mono (fun _ _ q => QF.s hJ.1 q.1 q.2.1)) (fun h1 g s => ys_river _ _ h1 g)
theorem p3_event (hJ : J32 h) : PairOK J32 TA 40 119 (argsOf xs j 3 1) h := J32.of (ms := [6, 40, 82, 86, 92, 97, 99, 100, 119]) (M1 := m_X6_event) (M2 := m_X7_event) hJ (pr_event hJ.1) rfl rfl (by decide +kernel) (by decide) (by decide) (QF.kp hJ.1 (x_event _ _ _ h hJ.1.1)) (fun h1 g s => ys_event _ _ _ h1 g)
theorem p3_back (hJ : J32 h) : PairOK J32 TA 41 120 (argsOf xs j 0 1) h := J32.of (ms := [41, 86, 120]) (M1 := m_X6_back) (M2 := m_X7_back) hJ (pr_back hJ.1) rfl rfl (by decide +kernel) (by decide) (by decide) (QF.kp hJ.1 (x_back h hJ.1.1)) (fun h1 g s => ys_back h1 g)
theorem p3_read (hJ : J32 h) : PairOK J32 TA 42 121 (argsOf xs j 1 1) h := J32.of (ms := [6, 40, 42, 82, 85, 86, 92, 97, 99, 100, 119, 121, 170, 171]) (M1 := m_X6_read) (M2 := m_X7_read) hJ (pr_read hJ.1) rfl rfl (by decide +kernel) (by decide) (by decide) (QF.kp hJ.1 (x_read _ h hJ.1.1)) (fun h1 g s => (ys_read _ h1 g).mono (fun _ _ q => q.2))
theorem p3_seen (hJ : J32 h) : PairOK J32 TA 58 156 (argsOf xs j 2 1) h := J32.of (ms := [8, 58, 82, 92, 97, 156]) (M1 := m_X6_seen) (M2 := m_X7_seen) hJ (pr_seen hJ.1) rfl rfl (by decide +kernel) (by decide) (by decide) (QF.kp hJ.1 (x_seen _ _ h hJ.1.1)) (fun h1 g s => ys_seen _ _ h1 g)
theorem p3_forget (hJ : J32 h) : PairOK J32 TA 59 157 (argsOf xs j 0 1) h := J32.of (ms := [59, 157]) (M1 := m_X6_forget) (M2 := m_X7_forget) hJ (pr_forget hJ.1) rfl rfl (by decide +kernel) (by decide) (by decide) ((x_forgetE h hJ.1.1).mono (fun _ _ q => QF.s hJ.1 q.1 q.2.1)) (fun h1 g s => ys_forget h1 g)
theorem p3_get (hJ : J32 h) : PairOK J32 TA 73 177 (argsOf xs j 3 1) h := J32.of (ms := [12, 73, 82, 92, 171, 174, 177]) (M1 := m_X6_get) (M2 := m_X7_get) hJ (pr_get hJ.1) rfl rfl (by decide +kernel) (by decide) (by decide) ((SPi.ct p_sc25 (M := m_X6_get) rfl (gS_this 0 (gS_args xs j 3 1)) hJ.1.1 rfl).mono (fun _ _ q => QF.s hJ.1 q.2.1 q.2.2)) (fun h1 g s => ys_get _ _ _ h1 g)
end P32
theorem iff_th {l t : Int32} (e : l = 0 ↔ ¬ t = 0) : (thA t = 0 ↔ l = 0) := by
  by_cases ht : t = 0
  · exact ⟨fun w => absurd w (thA_0 ht), fun w => absurd ht (e.mp w)⟩
  · exact ⟨fun _ => e.mpr ht, fun _ => thA_1 ht⟩
section EX32
variable {h : MH}
/-- sheet: under J1 alone, and under J32 -/
theorem sheetT {s f n : Int32} {r r2 : Option Value} {h1 h2 : MH} (q : ShX s f n h r h1) (w : ShY s f n h1 r2 h2) : TE r r2 := by
  obtain ⟨-, -, q⟩ := q
  obtain ⟨-, -, w⟩ := w
  rcases q with ⟨q0, rfl, -⟩ | ⟨q0, q1, rfl, -⟩ | ⟨q0, q1, rfl, -⟩
  · rcases w with ⟨-, rfl, -⟩ | ⟨w0, -⟩ | ⟨w0, -⟩
    · exact ⟨_, rfl, rfl⟩
    · exact absurd w0 q0
    · exact absurd w0 q0
  · rcases w with ⟨w0, -⟩ | ⟨-, -, rfl, -⟩ | ⟨-, w1, -⟩
    · exact absurd q0 w0
    · exact ⟨_, rfl, rfl⟩
    · exact absurd q1 w1
  · rcases w with ⟨w0, -⟩ | ⟨-, w1, -⟩ | ⟨-, -, rfl, -⟩
    · exact absurd q0 w0
    · exact absurd w1 q1
    · exact ⟨_, rfl, rfl⟩
theorem pair_sheet (s f n : Int32) (hJ : J1 h) : PairOK J1 TE 70 172 [.int s, .int f, .int n] h := by
  refine pair_rp hJ.1 (M1 := m_X6_sheet) (M2 := m_X7_sheet) rfl rfl rfl rfl (x_sheetE s f n h hJ.1) (fun r h1 q => (J1_Cs h h1 hJ q.1 q.2.1).2.1) (fun r h1 q => ?_)
  have j1 := J1_Cs h h1 hJ q.1 q.2.1
  exact (y_sheetE s f n h1 j1.2.1).mono (fun r2 h2 w => ⟨sheetT q w, J1_Ms h1 h2 j1 w.1 w.2.1⟩)
theorem pair_sheet3 (s f n : Int32) (hJ : J32 h) : PairOK J32 TE 70 172 [.int s, .int f, .int n] h := by
  refine pair_rp hJ.1.1 (M1 := m_X6_sheet) (M2 := m_X7_sheet) rfl rfl rfl rfl (x_sheetE s f n h hJ.1.1) (fun r h1 q => (J1_Cs h h1 hJ.1 q.1 q.2.1).2.1) (fun r h1 q => ?_)
  have j1 := J1_Cs h h1 hJ.1 q.1 q.2.1
  refine (y_sheetE s f n h1 j1.2.1).mono (fun r2 h2 w => ⟨sheetT q w, J1_Ms h1 h2 j1 w.1 w.2.1, ?_⟩)
  have sf := smY_from (from_of HCs_len any_Cs q.2.1 hJ.1.1 q.1)
  have st := smX_to (to_of any_Ms w.2.1 j1.2.1 w.1)
  obtain ⟨-, -, q⟩ := q
  obtain ⟨-, -, w⟩ := w
  rcases q with ⟨q0, -, q3⟩ | ⟨q0, q1, -, q3⟩ | ⟨q0, q1, -, q3⟩
  · rcases w with ⟨-, -, w3⟩ | ⟨w0, -⟩ | ⟨w0, -⟩
    · exact hJ.2.sm (q3.tr st) (sf.tr w3)
    · exact absurd w0 q0
    · exact absurd w0 q0
  · rcases w with ⟨w0, -⟩ | ⟨-, -, -, w3⟩ | ⟨-, w1, -⟩
    · exact absurd q0 w0
    · exact hJ.2.sm (q3.tr st) (sf.tr w3)
    · exact absurd q1 w1
  · rcases w with ⟨w0, -⟩ | ⟨-, w1, -⟩ | ⟨-, -, -, w3⟩
    · exact absurd q0 w0
    · exact absurd w1 q1
    · intro p hp
      obtain ⟨a1, a2, a3⟩ := q3 p hp
      obtain ⟨b1, b2, b3⟩ := w3 p
      obtain ⟨k1, k2, k3⟩ := hJ.2 p hp
      rw [(st p hp).1, (st p hp).2.1, (st p hp).2.2, a1, a2, a3, b1, b2, b3, aI_cong sf.1, aI_cong sf.2.1, aI_cong sf.2.2]
      by_cases e : p = s.toNatClampNeg
      · rw [if_pos e, if_pos e, if_pos e, if_pos e, if_pos e, if_pos e]
        exact ⟨⟨fun _ => by decide, fun _ => rfl⟩, rfl, rfl⟩
      · rw [if_neg e, if_neg e, if_neg e, if_neg e, if_neg e, if_neg e]
        exact ⟨k1, k2, k3⟩
theorem okS.lt {s : Int32} (h : okS s) : s.toNatClampNeg < 4 := by
  have := nat_cl h.1
  have := h.2
  omega
theorem pair_lose (s : Int32) (hJ : J32 h) : PairOK J32 TE 71 173 [.int s] h := by
  refine pair_rp hJ.1.1 (M1 := m_X6_lose) (M2 := m_X7_lose) rfl rfl rfl rfl (x_loseE s h hJ.1.1) (fun r h1 q => (J1_Cs h h1 hJ.1 q.1 q.2.1).2.1) (fun r h1 q => ?_)
  have j1 := J1_Cs h h1 hJ.1 q.1 q.2.1
  refine (y_loseE s h1 j1.2.1).mono (fun r2 h2 w => ?_)
  have j2 := J1_Ms h1 h2 j1 w.1 w.2.1
  have sf := smY_from (from_of HCs_len any_Cs q.2.1 hJ.1.1 q.1)
  have st := smX_to (to_of any_Ms w.2.1 j1.2.1 w.1)
  obtain ⟨-, -, q⟩ := q
  obtain ⟨-, -, w⟩ := w
  rw [aI_cong sf.1, aI_cong sf.2.2] at w
  rcases q with ⟨q0, rfl, q3⟩ | ⟨q0, q1, rfl, q3⟩ | ⟨q0, q1, rfl, q3⟩
  · rcases w with ⟨-, rfl, w3⟩ | ⟨w0, -⟩ | ⟨w0, -⟩
    · exact ⟨⟨_, rfl, rfl⟩, j2, hJ.2.sm (q3.tr st) (sf.tr w3)⟩
    · exact absurd w0 q0
    · exact absurd w0 q0
  · have k1 := (hJ.2 _ q0.lt).1
    rcases w with ⟨w0, -⟩ | ⟨-, -, rfl, w3⟩ | ⟨-, w1, -⟩
    · exact absurd q0 w0
    · exact ⟨⟨_, rfl, rfl⟩, j2, hJ.2.sm (q3.tr st) (sf.tr w3)⟩
    · exact absurd (k1.mpr w1) q1
  · have k1 := (hJ.2 _ q0.lt).1
    rcases w with ⟨w0, -⟩ | ⟨-, w1, -⟩ | ⟨-, -, rfl, w3, w4, w5⟩
    · exact absurd q0 w0
    · exact absurd w1 (k1.mp q1)
    · refine ⟨⟨_, rfl, by rw [(hJ.2 _ q0.lt).2.2]⟩, j2, fun p hp => ?_⟩
      obtain ⟨a1, a2, a3⟩ := q3 p hp
      obtain ⟨k1, k2, k3⟩ := hJ.2 p hp
      rw [(st p hp).1, (st p hp).2.1, (st p hp).2.2, a1, a2, a3, w3 p, aI_cong w4, aI_cong w5, aI_cong sf.1, aI_cong sf.2.1, aI_cong sf.2.2]
      by_cases e : p = s.toNatClampNeg
      · rw [if_pos e, if_pos e]
        exact ⟨⟨fun w => absurd w (by decide), fun w => absurd rfl w⟩, k2, k3⟩
      · rw [if_neg e, if_neg e]
        exact ⟨k1, k2, k3⟩
theorem lk_fd {l t f z form i : Int32} (e : l = 0 ↔ ¬ t = 0) : lkA t f z form i = fdA l f z form i := by
  by_cases ht : t = 0
  · have hl : ¬ l = 0 := fun w => e.mp w ht
    rw [lkA_0 ht]
    unfold fdA
    rw [if_pos hl]
  · rw [lkA_1 ht, e.mpr ht]
theorem pair_put (s f i v : Int32) (hJ : J32 h) : PairOK J32 TE 72 176 [.int s, .int f, .int i, .int v] h := by
  refine pair_rp hJ.1.1 (M1 := m_X6_put) (M2 := m_X7_put) rfl rfl rfl rfl (x_putE s f i v h hJ.1.1) (fun r h1 q => (J1_Cs h h1 hJ.1 q.1 q.2.1).2.1) (fun r h1 q => ?_)
  have j1 := J1_Cs h h1 hJ.1 q.1 q.2.1
  refine (y_putE s f i v h1 j1.2.1).mono (fun r2 h2 w => ?_)
  have j2 := J1_Ms h1 h2 j1 w.1 w.2.1
  have sf := smY_from (from_of HCs_len any_Cs q.2.1 hJ.1.1 q.1)
  have st := smX_to (to_of any_Ms w.2.1 j1.2.1 w.1)
  obtain ⟨-, -, q⟩ := q
  obtain ⟨-, -, w⟩ := w
  rw [aI_cong sf.1, aI_cong sf.2.1, aI_cong sf.2.2] at w
  have smA : ∀ {a k : Nat} {x : Int32} {h : MH}, (∀ q, q < 4 → ¬ a = 115 + 2 * q) → smX h (setA h a k x) := fun e q hq => ⟨fI_cong (setA_ne (e q hq)), fI_cong (setA_ne (e q hq)), fI_cong (setA_ne (e q hq))⟩
  rcases q with ⟨q0, rfl, q3⟩ | ⟨q0, q1, rfl, q3⟩ | ⟨q0, q1, rfl, q3⟩
  · rcases w with ⟨-, rfl, w3⟩ | ⟨w0, -⟩ | ⟨w0, -⟩
    · refine ⟨⟨_, rfl, rfl⟩, j2, ?_⟩
      rw [w3, q3]
      exact hJ.2
    · exact absurd w0 q0
    · exact absurd w0 q0
  · obtain ⟨k1, k2, k3⟩ := hJ.2 _ q0.1.lt
    rw [lk_fd k1, ← k2, ← k3] at w
    rcases w with ⟨w0, -⟩ | ⟨-, -, rfl, w3⟩ | ⟨-, w1, -⟩
    · exact absurd q0 w0
    · refine ⟨⟨_, rfl, rfl⟩, j2, hJ.2.sm (smX.tr (by rw [q3]; exact smX_n0) st) (sf.tr (by rw [w3]; exact smY_F))⟩
    · exact absurd w1 q1
  · obtain ⟨k1, k2, k3⟩ := hJ.2 _ q0.1.lt
    rw [lk_fd k1, ← k2, ← k3] at w
    rcases w with ⟨w0, -⟩ | ⟨-, w1, -⟩ | ⟨-, -, rfl, w3⟩
    · exact absurd q0 w0
    · exact absurd q1 w1
    · refine ⟨⟨_, rfl, rfl⟩, j2, hJ.2.sm (smX.tr (by rw [q3]; exact smA (fun q _ => by omega)) st) (sf.tr (by rw [w3]; exact ⟨setA_ne (by decide), setA_ne (by decide), setA_ne (by decide)⟩))⟩
theorem cpA_cong {ls lt fs ft zs zt ls' lt' s i t j n : Int32} (h1 : okS s → okS t → (ls' = 0 ↔ ls = 0)) (h2 : okS s → okS t → (lt' = 0 ↔ lt = 0)) : cpA ls' lt' fs ft zs zt s i t j n = cpA ls lt fs ft zs zt s i t j n := by
  by_cases e : okS s ∧ okS t
  · unfold cpA
    simp only [h1 e.1 e.2, h2 e.1 e.2]
  · rw [cpA_2 e, cpA_2 e]
theorem pair_copy (s i t j n : Int32) (hJ : J32 h) : PairOK J32 TE 74 178 [.int s, .int i, .int t, .int j, .int n] h := by
  refine pair_rp hJ.1.1 (M1 := m_X6_copy) (M2 := m_X7_copy) rfl rfl rfl rfl (x_copyE s i t j n h hJ.1.1) (fun r h1 q => (J1_Cs h h1 hJ.1 q.1 q.2.1).2.1) (fun r h1 q => ?_)
  have j1 := J1_Cs h h1 hJ.1 q.1 q.2.1
  refine (y_copyE s i t j n h1 j1.2.1).mono (fun r2 h2 w => ?_)
  have j2 := J1_Ms h1 h2 j1 w.1 w.2.1
  have sf := smY_from (from_of HCs_len any_Cs q.2.1 hJ.1.1 q.1)
  have st := smX_to (to_of any_Ms w.2.1 j1.2.1 w.1)
  obtain ⟨-, -, rfl, q3⟩ := q
  obtain ⟨-, -, rfl, w3⟩ := w
  refine ⟨⟨_, rfl, ?_⟩, j2, hJ.2.sm (q3.tr st) (sf.tr w3)⟩
  rw [aI_cong sf.1, aI_cong sf.1, aI_cong sf.2.1, aI_cong sf.2.1, aI_cong sf.2.2, aI_cong sf.2.2]
  by_cases e : okS s ∧ okS t
  · rw [← (hJ.2 _ e.1.lt).2.1, ← (hJ.2 _ e.1.lt).2.2, ← (hJ.2 _ e.2.lt).2.1, ← (hJ.2 _ e.2.lt).2.2]
    rw [cpA_cong (fun a b => iff_th (hJ.2 _ a.lt).1) (fun a b => iff_th (hJ.2 _ b.lt).1)]
  · rw [cpA_2 e, cpA_2 e]
theorem pair_write (a s : Int32) (hJ : J32 h) : PairOK J32 TE 75 179 [.int a, .int s] h := by
  have kx := RP.fr (ms := [14, 20, 21, 22, 23, 24, 25, 75, 82, 85, 88, 187]) (bad := bad32) (bb := true) (y := 75) (by decide +kernel) (by decide) rfl (x_writeE a s h hJ.1.1)
  refine pair_rp hJ.1.1 (M1 := m_X6_write) (M2 := m_X7_write) rfl rfl rfl rfl kx (fun r h1 q => (J1_Cs h h1 hJ.1 q.1.1 q.1.2.1).2.1) (fun r h1 q => ?_)
  obtain ⟨q, fr⟩ := q
  have j1 := J1_Cs h h1 hJ.1 q.1 q.2.1
  refine (y_writeE a s h1 j1.2.1).mono (fun r2 h2 w => ?_)
  have j2 := J1_Ms h1 h2 j1 w.1 w.2.1
  have sf := smY_from (from_of HCs_len any_Cs q.2.1 hJ.1.1 q.1)
  have st := smX_to (to_of any_Ms w.2.1 j1.2.1 w.1)
  have kk := hJ.2.sm ((smX_fr hJ.1.1 fr).tr st) (sf.tr w.2.2.1)
  obtain ⟨-, -, q⟩ := q
  obtain ⟨-, -, -, w⟩ := w
  rw [aI_cong sf.1, aI_cong sf.2.2] at w
  refine ⟨?_, j2, kk⟩
  rcases q with ⟨q0, rfl⟩ | ⟨q0, q1, rfl⟩ | ⟨q0, q1, rfl⟩
  · rcases w with ⟨-, rfl⟩ | ⟨w0, -⟩ | ⟨w0, -⟩
    · exact ⟨_, rfl, rfl⟩
    · exact absurd w0 q0
    · exact absurd w0 q0
  · have k1 := (hJ.2 _ q0.2.lt).1
    rcases w with ⟨w0, -⟩ | ⟨-, -, rfl⟩ | ⟨-, w1, -⟩
    · exact absurd q0 w0
    · exact ⟨_, rfl, rfl⟩
    · exact absurd (k1.mpr w1) q1
  · have k1 := (hJ.2 _ q0.2.lt).1
    rcases w with ⟨w0, -⟩ | ⟨-, w1, -⟩ | ⟨-, -, rfl⟩
    · exact absurd q0 w0
    · exact absurd w1 (k1.mp q1)
    · exact ⟨_, rfl, by rw [(hJ.2 _ q0.2.lt).2.2]⟩
end EX32
