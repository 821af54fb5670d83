/-! PAIRS: from the contracts of both sides to the law's cases -/
def SPi (H : AH) (M : MM) (as : List Value) (h : MH) : Prop := RP M 0 (m_ent (mx M) as) [] h (fun r h1 => (∃ v, r = some (.int v)) ∧ gH H h1 ∧ fH H h h1)
def SPl (H : AH) (M : MM) (as : List Value) (h : MH) : Prop := RP M 0 (m_ent (mx M) as) [] h (fun r h1 => (∃ v, r = some (.long v)) ∧ gH H h1 ∧ fH H h h1)
theorem SPi.kp {H : AH} {M : MM} {as : List Value} {h : MH} {lo hi : Int} (k : RP M 0 (m_ent (mx M) as) [] h (KP H lo hi h)) : SPi H M as h := k.mono (fun r h1 q => ⟨⟨_, q.2.2.choose_spec.1⟩, q.1, q.2.1⟩)
def altI (ct : CT) : Bool := ct.2.2.all (fun alt => match alt.1 with | some (.inl _) => true | _ => false)
def altL (ct : CT) : Bool := ct.2.2.all (fun alt => match alt.1 with | some (.inr (.inr _)) => true | _ => false)
theorem SPi.ct {H : AH} {M : MM} {as : List Value} {h : MH} {ct : CT} (hc : CtP H ct) (hM : m_tab[ct.1]? = some M) (gs : gS [] ct.2.1 as) (gh : gH H h) (hi : altI ct = true) : SPi H M as h := by
  obtain ⟨d1, r, h1, alt, d2, d3, d4, d5, d6, -⟩ := hc.1 M hM as h gs gh
  refine ⟨r, h1, d3, ?_, d5, d6⟩
  have q := List.all_eq_true.mp hi alt d2
  obtain ⟨a1, a2⟩ := alt
  dsimp only at q d4
  split at q
  · rename_i a
    rcases r with _ | v
    · exact d4.elim
    · obtain ⟨lo, hi2, rel⟩ := a
      obtain ⟨x, rfl, -⟩ := d4
      exact ⟨x, rfl⟩
  · cases q
theorem SPl.ct {H : AH} {M : MM} {as : List Value} {h : MH} {ct : CT} (hc : CtP H ct) (hM : m_tab[ct.1]? = some M) (gs : gS [] ct.2.1 as) (gh : gH H h) (hi : altL ct = true) : SPl H M as h := by
  obtain ⟨d1, r, h1, alt, d2, d3, d4, d5, d6, -⟩ := hc.1 M hM as h gs gh
  refine ⟨r, h1, d3, ?_, d5, d6⟩
  have q := List.all_eq_true.mp hi alt d2
  obtain ⟨a1, a2⟩ := alt
  dsimp only at q d4
  split at q
  · rcases r with _ | v
    · exact d4.elim
    · obtain ⟨x, rfl, -⟩ := d4
      exact ⟨x, rfl⟩
  · cases q
theorem gS_args (xs : List Int32) (j : Int32) : ∀ n c, gS [] (List.replicate n aTop) (argsOf xs j n c)
  | 0, _ => trivial
  | n + 1, c => ⟨gV_top [] _, gS_args xs j n (c + 1)⟩
theorem gS_this (a : Nat) {A : List AV} {as : List Value} (g : gS [] A as) : gS [] (.inr (.inl [a]) :: A) (.ref a :: as) := ⟨⟨a, rfl, List.mem_singleton.mpr rfl⟩, g⟩
theorem ent_args (xs : List Int32) (j : Int32) : ∀ n c, (entL (argsOf xs j n c)).length = n
  | 0, _ => rfl
  | n + 1, c => by
    show (entL (argsOf xs j n (c + 1))).length + 1 = n + 1
    rw [ent_args xs j n (c + 1)]
theorem ent_this (a : Nat) (xs : List Int32) (j : Int32) (n c m : Nat) (h : n + 1 ≤ m) : Nat.ble (entL (.ref a :: argsOf xs j n c)).length m = true := by
  have e : (entL (.ref a :: argsOf xs j n c)).length = n + 1 := by
    show (entL (argsOf xs j n c)).length + 1 = n + 1
    rw [ent_args]
  rw [e]
  exact Nat.ble_eq_true_of_le h
/-- what an invariant must bear: both sides' ranges; a call of one side that keeps what is frozen in H -/
def Jst (J : MH → Prop) (H : AH) : Prop := ∀ h h1, J h → gH H h1 → fH H h h1 → J h1
section PAIRS
variable {J : MH → Prop} {T : Option Value → Option Value → Prop} {M1 M2 : MM} {y1 y2 : Nat} {as : List Value} {h : MH}
theorem pair_rp {PX : Option Value → MH → Prop} (g1 : gH HCs h) (e1 : m_tab[y1]? = some M1) (e2 : m_tab[y2]? = some M2) (b1 : Nat.ble (entL (.ref 0 :: as)).length (mx M1) = true) (b2 : Nat.ble (entL (.ref 123 :: as)).length (mx M2) = true) (kx : RP M1 0 (m_ent (mx M1) (.ref 0 :: as)) [] h PX) (fx : ∀ r h1, PX r h1 → gH HMs h1) (km : ∀ r h1, PX r h1 → RP M2 0 (m_ent (mx M2) (.ref 123 :: as)) [] h1 (fun r2 h2 => T r r2 ∧ J h2)) : PairOK J T y1 y2 as h := by
  obtain ⟨r, h1, k1, k2⟩ := kx
  obtain ⟨r2, h2, k3, k4, k5⟩ := km r h1 k2
  exact ⟨M1, M2, r, h1, r2, h2, e1, e2, b1, b2, ob_sp g1 rfl, ob_sp (fx r h1 k2) rfl, k1, k3, k4, k5⟩
theorem pair_i {HX HY : AH} (hJ : J h) (jc : ∀ h, J h → gH HCs h) (jm : ∀ h, J h → gH HMs h) (sx : Jst J HX) (sy : Jst J HY) (e1 : m_tab[y1]? = some M1) (e2 : m_tab[y2]? = some M2) (b1 : Nat.ble (entL (.ref 0 :: as)).length (mx M1) = true) (b2 : Nat.ble (entL (.ref 123 :: as)).length (mx M2) = true) (kx : SPi HX M1 (.ref 0 :: as) h) (km : ∀ h1, J h1 → SPi HY M2 (.ref 123 :: as) h1) : PairOK J TA y1 y2 as h := by
  refine pair_rp (PX := fun r h1 => (∃ v, r = some (.int v)) ∧ J h1) (jc h hJ) e1 e2 b1 b2 (kx.mono (fun r h1 q => ⟨q.1, sx h h1 hJ q.2.1 q.2.2⟩)) (fun r h1 q => jm h1 q.2) (fun r h1 q => ?_)
  exact (km h1 q.2).mono (fun r2 h2 w => ⟨⟨q.1, w.1⟩, sy h1 h2 q.2 w.2.1 w.2.2⟩)
theorem pair_l {HX HY : AH} (hJ : J h) (jc : ∀ h, J h → gH HCs h) (jm : ∀ h, J h → gH HMs h) (sx : Jst J HX) (sy : Jst J HY) (e1 : m_tab[y1]? = some M1) (e2 : m_tab[y2]? = some M2) (b1 : Nat.ble (entL (.ref 0 :: as)).length (mx M1) = true) (b2 : Nat.ble (entL (.ref 123 :: as)).length (mx M2) = true) (kx : SPl HX M1 (.ref 0 :: as) h) (km : ∀ h1, J h1 → SPl HY M2 (.ref 123 :: as) h1) : PairOK J TL y1 y2 as h := by
  refine pair_rp (PX := fun r h1 => (∃ v, r = some (.long v)) ∧ J h1) (jc h hJ) e1 e2 b1 b2 (kx.mono (fun r h1 q => ⟨q.1, sx h h1 hJ q.2.1 q.2.2⟩)) (fun r h1 q => jm h1 q.2) (fun r h1 q => ?_)
  exact (km h1 q.2).mono (fun r2 h2 w => ⟨⟨q.1, w.1⟩, sy h1 h2 q.2 w.2.1 w.2.2⟩)
end PAIRS
/-! cells of one side stay where the other is called -/
def cl_99 (H : AH) (lo n : Nat) : Bool := (List.range n).all (fun j => match H[lo + j]? with | some (.inr (.inl (99, _))) => true | _ => false)
theorem cl_99_sp {H : AH} {lo n a : Nat} {c : AC} (hc : cl_99 H lo n = true) (h2 : lo ≤ a) (h3 : a < lo + n) (ha : H[a]? = some c) (x : ME) : gC c x := by
  have q := List.all_eq_true.mp hc (a - lo) (List.mem_range.mpr (by omega))
  rw [show lo + (a - lo) = a by omega, ha] at q
  split at q
  · rename_i e
    cases e
    exact Or.inl rfl
  · cases q
theorem n9_Ms : cl_99 HMs 0 123 = true := by decide +kernel
theorem n9_Cs : cl_99 HCs 123 30 = true := by decide +kernel
theorem gM_from {h h1 : MH} (g : gH HMs h) (hl : h1.length = 153) (s : sameFrom 123 h h1) : gH HMs h1 := by
  refine ⟨HMs_len.trans hl.symm, fun a c hc => ?_⟩
  by_cases ha : a < 123
  · exact ⟨h1[a]'(by omega), List.getElem?_eq_getElem (by omega), cl_99_sp n9_Ms (Nat.zero_le a) (by omega) hc _⟩
  · rw [s a (by omega)]
    exact g.2 a c hc
theorem gC_to {h h1 : MH} (g : gH HCs h) (hl : h1.length = 153) (s : sameTo 123 h h1) : gH HCs h1 := by
  refine ⟨HCs_len.trans hl.symm, fun a c hc => ?_⟩
  have hlt : a < 153 := by
    rw [← HCs_len]
    exact (List.getElem?_eq_some_iff.mp hc).1
  by_cases ha : a < 123
  · rw [s a ha]
    exact g.2 a c hc
  · exact ⟨h1[a]'(by omega), List.getElem?_eq_getElem (by omega), cl_99_sp n9_Cs (by omega) (by omega) hc _⟩
theorem typ_from {h h1 : MH} (s : sameFrom 123 h h1) (j : Nat) : typ h1 j = typ h j := aI_cong (s 124 (by omega))
theorem len_to {h h1 : MH} (s : sameTo 123 h h1) {j : Nat} (hj : j < 3) : len h1 j = len h j := fI_cong (s _ (by omega))
theorem len_fz {h h1 : MH} (f : fH HCs h h1) (g : gH HCs h) (g1 : gH HCs h1) {j : Nat} (hj : j < 3) : len h1 j = len h j := by
  match j, hj with
  | 0, _ => exact fI_fz (ci := 4) f g g1 (lo := 0) (hi := 23) rfl
  | 1, _ => exact fI_fz (ci := 4) f g g1 (lo := 0) (hi := 24) rfl
  | 2, _ => exact fI_fz (ci := 4) f g g1 (lo := 0) (hi := 24) rfl
theorem len_fzC {h h1 : MH} (f : fH HC h h1) (g : gH HC h) (g1 : gH HC h1) {j : Nat} (hj : j < 3) : len h1 j = len h j := by
  match j, hj with
  | 0, _ => exact fI_fz (ci := 4) f g g1 (lo := 0) (hi := 23) rfl
  | 1, _ => exact fI_fz (ci := 4) f g g1 (lo := 0) (hi := 24) rfl
  | 2, _ => exact fI_fz (ci := 4) f g g1 (lo := 0) (hi := 24) rfl
theorem cell_fz {H : AH} {h h1 : MH} {a t n : Nat} {lo hi : Int} (f : fH H h h1) (g : gH H h) (g1 : gH H h1) (hc : H[a]? = some (.inl (t, n, lo, hi, true))) : h1[a]? = h[a]? := by
  obtain ⟨x, hx, -⟩ := g.2 a _ hc
  obtain ⟨y, hy, -⟩ := g1.2 a _ hc
  rw [hx, hy, f a _ x y hc hx hy rfl]
theorem typ_fz {h h1 : MH} (f : fH HMs h h1) (g : gH HMs h) (g1 : gH HMs h1) (j : Nat) : typ h1 j = typ h j := aI_cong (cell_fz f g g1 (a := 124) (t := 0) (n := 3) (lo := 0) (hi := 24) rfl)
theorem typ_fzM {h h1 : MH} (f : fH HM h h1) (g : gH HM h) (g1 : gH HM h1) (j : Nat) : typ h1 j = typ h j := aI_cong (cell_fz f g g1 (a := 124) (t := 0) (n := 3) (lo := 0) (hi := 24) rfl)
/-- THE FIRST INVARIANT: the ranges, and the texts are of one length -/
def J1 (h : MH) : Prop := gH HCs h ∧ gH HMs h ∧ ∀ j, j < 3 → len h j = typ h j
theorem J1.c (h : MH) (j : J1 h) : gH HCs h := j.1
theorem J1.m (h : MH) (j : J1 h) : gH HMs h := j.2.1
theorem J1.x {h h1 : MH} (j : J1 h) (g1 : gH HCs h1) (s : sameFrom 123 h h1) (e : ∀ j, j < 3 → len h1 j = len h j) : J1 h1 := ⟨g1, gM_from j.2.1 (g1.1.symm.trans HCs_len) s, fun k hk => by rw [e k hk, typ_from s, j.2.2 k hk]⟩
theorem J1.y {h h1 : MH} (j : J1 h) (g1 : gH HMs h1) (s : sameTo 123 h h1) (e : ∀ j, j < 3 → typ h1 j = typ h j) : J1 h1 := ⟨gC_to j.1 (g1.1.symm.trans HMs_len) s, g1, fun k hk => by rw [e k hk, len_to s hk, j.2.2 k hk]⟩
theorem J1_Cs : Jst J1 HCs := fun h h1 j g1 f => j.x g1 (from_of HCs_len any_Cs f j.1 g1) (fun k hk => len_fz f j.1 g1 hk)
theorem J1_C : Jst J1 HC := fun h h1 j g1 f => j.x (gH.eq eq_HCs g1) (from_of HC_len any_C f (gH.eq eq_HCr j.1) g1) (fun k hk => len_fzC f (gH.eq eq_HCr j.1) g1 hk)
theorem J1_Ms : Jst J1 HMs := fun h h1 j g1 f => j.y g1 (to_of any_Ms f j.2.1 g1) (fun k _ => typ_fz f j.2.1 g1 k)
theorem J1_M : Jst J1 HM := fun h h1 j g1 f => j.y (gH.eq eq_HMs g1) (to_of any_M f (gH.eq eq_HMr j.2.1) g1) (fun k _ => typ_fzM f (gH.eq eq_HMr j.2.1) g1 k)
theorem J1_0 : J1 h0 := ⟨g0_C, g0_M, fun j hj => by
  match j, hj with
  | 0, _ => decide +kernel
  | 1, _ => decide +kernel
  | 2, _ => decide +kernel⟩
/-! type, wipe, undo: the answers are the same -/
theorem comb {h h1 h2 : MH} {r r2 : Option Value} {v w : Int32} {f g : Nat → Int32} (x : LnP h r h1 v f) (y : TnP h1 r2 h2 w g) (ev : v = w) (ef : ∀ j, j < 3 → f j = g j) : TE r r2 ∧ J1 h2 := by
  obtain ⟨x1, x2, rfl, x4⟩ := x
  obtain ⟨y1, y2, rfl, y4⟩ := y
  subst ev
  refine ⟨⟨v, rfl, rfl⟩, gC_to (gH.eq eq_HCs x1) (y1.1.symm.trans HM_len) y2, gH.eq eq_HMs y1, fun j hj => ?_⟩
  rw [len_to y2 hj, x4 j hj, y4 j hj, ef j hj]
theorem LnP.m {h h1 : MH} {r : Option Value} {v : Int32} {f : Nat → Int32} (x : LnP h r h1 v f) (g : gH HMs h) : gH HMs h1 := gM_from g (x.1.1.symm.trans HC_len) x.2.1
theorem LnP.t {h h1 : MH} {r : Option Value} {v : Int32} {f : Nat → Int32} (x : LnP h r h1 v f) (j : Nat) : typ h1 j = typ h j := typ_from x.2.1 j
theorem pair_bad {M1 M2 : MM} {y1 y2 : Nat} {as : List Value} {h : MH} (hJ : J1 h) (e1 : m_tab[y1]? = some M1) (e2 : m_tab[y2]? = some M2) (b1 : Nat.ble (entL (.ref 0 :: as)).length (mx M1) = true) (b2 : Nat.ble (entL (.ref 123 :: as)).length (mx M2) = true) (kx : RP M1 0 (m_ent (mx M1) (.ref 0 :: as)) [] h (fun r h1 => h1 = h ∧ r = some (.int (-2)))) (km : RP M2 0 (m_ent (mx M2) (.ref 123 :: as)) [] h (fun r h1 => h1 = h ∧ r = some (.int (-2)))) : PairOK J1 TE y1 y2 as h := by
  refine pair_rp hJ.1 e1 e2 b1 b2 kx (fun r h1 q => ?_) (fun r h1 q => ?_)
  · obtain ⟨rfl, -⟩ := q
    exact hJ.2.1
  · obtain ⟨rfl, rfl⟩ := q
    exact km.mono (fun r2 h2 w => by
      obtain ⟨rfl, rfl⟩ := w
      exact ⟨⟨-2, rfl, rfl⟩, hJ⟩)
theorem pair_wipe_0 {h : MH} (hJ : J1 h) : PairOK J1 TE 32 102 [.int 0] h := by
  refine pair_rp hJ.1 (M1 := m_X6_wipe) (M2 := m_X7_wipe) rfl rfl rfl rfl (x_wipe_0 h (gH.eq eq_HCr hJ.1)) (fun r h1 q => q.m hJ.2.1) (fun r h1 q => ?_)
  refine (y_wipe 0 h1 (gH.eq eq_HMr (q.m hJ.2.1)) (by decide) (by decide)).mono (fun r2 h2 w => comb q w ?_ (fun j hj => ?_))
  · rw [hJ.2.2 0 (by omega), ← q.t 0]
    rfl
  · show (if j = 0 then 0 else len h j) = (if j = 0 then 0 else typ h1 j)
    rw [q.t j, hJ.2.2 j hj]
theorem pair_undo_0 {h : MH} (hJ : J1 h) : PairOK J1 TE 33 103 [.int 0] h := by
  refine pair_rp hJ.1 (M1 := m_X6_undo) (M2 := m_X7_undo) rfl rfl rfl rfl (x_undo_0 h (gH.eq eq_HCr hJ.1)) (fun r h1 q => ?_) (fun r h1 q => ?_)
  · rcases q with ⟨-, q⟩ | ⟨-, q⟩
    · exact q.m hJ.2.1
    · exact q.m hJ.2.1
  · have hj0 := hJ.2.2 0 (by omega)
    rcases q with ⟨q0, q⟩ | ⟨q0, q⟩
    · refine (y_undo 0 h1 (gH.eq eq_HMr (q.m hJ.2.1)) (by decide) (by decide)).mono (fun r2 h2 w => ?_)
      have et : typ h1 0 = 0 := by rw [q.t 0, ← hj0, q0]
      rcases w with ⟨-, w⟩ | ⟨w0, w⟩
      · exact comb q w rfl (fun j hj => by rw [q.t j, hJ.2.2 j hj])
      · exact absurd et w0
    · refine (y_undo 0 h1 (gH.eq eq_HMr (q.m hJ.2.1)) (by decide) (by decide)).mono (fun r2 h2 w => ?_)
      have et : typ h1 0 = len h 0 := by rw [q.t 0, ← hj0]
      rcases w with ⟨w0, w⟩ | ⟨-, w⟩
      · exact absurd (et.symm.trans w0) q0
      · refine comb q w (by rw [← et]; rfl) (fun j hj => ?_)
        show (if j = 0 then len h 0 - 1 else len h j) = (if j = 0 then typ h1 0 - 1 else typ h1 j)
        rw [et, q.t j, hJ.2.2 j hj]
theorem pair_type_0 {h : MH} (b : Int32) (hb1 : 0 ≤ b.toInt) (hb2 : b.toInt < 256) (hJ : J1 h) : PairOK J1 TE 31 101 [.int 0, .int b] h := by
  have hj0 := hJ.2.2 0 (by omega)
  obtain ⟨-, -, -, l1, l2⟩ := fI_sp (ci := 4) (k := 1) (a := 109 + 2 * 0) (lo := 0) (hi := 23) (fz := true) hJ.1 rfl
  have l3 : (len h 0).toInt ≤ 23 := l2
  have zN : (23 : Int32).toInt = 23 := by decide
  refine pair_rp hJ.1 (M1 := m_X6_type) (M2 := m_X7_type) rfl rfl rfl rfl (x_type_0 b h (gH.eq eq_HCr hJ.1) hb1 hb2) (fun r h1 q => ?_) (fun r h1 q => ?_)
  · rcases q with ⟨-, q⟩ | ⟨-, q⟩
    · exact q.m hJ.2.1
    · exact q.m hJ.2.1
  · rcases q with ⟨q0, q⟩ | ⟨q0, q⟩
    · have et : typ h1 0 = len h 0 := by rw [q.t 0, ← hj0]
      refine (y_type_0 b h1 (gH.eq eq_HMr (q.m hJ.2.1)) hb1 (by omega) (by rw [et]; omega)).mono (fun r2 h2 w => ?_)
      rcases w with ⟨-, w⟩ | ⟨w0, w⟩
      · exact comb q w rfl (fun j hj => by rw [q.t j, hJ.2.2 j hj])
      · exact absurd (Int32.toInt_inj.mp (by rw [et, zN]; omega)) w0
    · have et : typ h1 0 = len h 0 := by rw [q.t 0, ← hj0]
      refine (y_type_0 b h1 (gH.eq eq_HMr (q.m hJ.2.1)) hb1 (by omega) (by rw [et]; omega)).mono (fun r2 h2 w => ?_)
      rcases w with ⟨w0, w⟩ | ⟨-, w⟩
      · have : (len h 0).toInt = 23 := by rw [← et, w0, zN]
        omega
      · refine comb q w (by rw [et]) (fun j hj => ?_)
        show (if j = 0 then len h 0 + 1 else len h j) = (if j = 0 then typ h1 0 + 1 else typ h1 j)
        rw [et, q.t j, hJ.2.2 j hj]
theorem pair_wipe_1 {h : MH} (hJ : J1 h) : PairOK J1 TE 32 102 [.int 1] h := by
  refine pair_rp hJ.1 (M1 := m_X6_wipe) (M2 := m_X7_wipe) rfl rfl rfl rfl (x_wipe_1 h (gH.eq eq_HCr hJ.1)) (fun r h1 q => q.m hJ.2.1) (fun r h1 q => ?_)
  refine (y_wipe 1 h1 (gH.eq eq_HMr (q.m hJ.2.1)) (by decide) (by decide)).mono (fun r2 h2 w => comb q w ?_ (fun j hj => ?_))
  · rw [hJ.2.2 1 (by omega), ← q.t 1]
    rfl
  · show (if j = 1 then 0 else len h j) = (if j = 1 then 0 else typ h1 j)
    rw [q.t j, hJ.2.2 j hj]
theorem pair_undo_1 {h : MH} (hJ : J1 h) : PairOK J1 TE 33 103 [.int 1] h := by
  refine pair_rp hJ.1 (M1 := m_X6_undo) (M2 := m_X7_undo) rfl rfl rfl rfl (x_undo_1 h (gH.eq eq_HCr hJ.1)) (fun r h1 q => ?_) (fun r h1 q => ?_)
  · rcases q with ⟨-, q⟩ | ⟨-, q⟩
    · exact q.m hJ.2.1
    · exact q.m hJ.2.1
  · have hj0 := hJ.2.2 1 (by omega)
    rcases q with ⟨q0, q⟩ | ⟨q0, q⟩
    · refine (y_undo 1 h1 (gH.eq eq_HMr (q.m hJ.2.1)) (by decide) (by decide)).mono (fun r2 h2 w => ?_)
      have et : typ h1 1 = 0 := by rw [q.t 1, ← hj0, q0]
      rcases w with ⟨-, w⟩ | ⟨w0, w⟩
      · exact comb q w rfl (fun j hj => by rw [q.t j, hJ.2.2 j hj])
      · exact absurd et w0
    · refine (y_undo 1 h1 (gH.eq eq_HMr (q.m hJ.2.1)) (by decide) (by decide)).mono (fun r2 h2 w => ?_)
      have et : typ h1 1 = len h 1 := by rw [q.t 1, ← hj0]
      rcases w with ⟨w0, w⟩ | ⟨-, w⟩
      · exact absurd (et.symm.trans w0) q0
      · refine comb q w (by rw [← et]; rfl) (fun j hj => ?_)
        show (if j = 1 then len h 1 - 1 else len h j) = (if j = 1 then typ h1 1 - 1 else typ h1 j)
        rw [et, q.t j, hJ.2.2 j hj]
theorem pair_type_1 {h : MH} (b : Int32) (hb1 : 0 ≤ b.toInt) (hb2 : b.toInt < 256) (hJ : J1 h) : PairOK J1 TE 31 101 [.int 1, .int b] h := by
  have hj0 := hJ.2.2 1 (by omega)
  obtain ⟨-, -, -, l1, l2⟩ := fI_sp (ci := 4) (k := 1) (a := 109 + 2 * 1) (lo := 0) (hi := 24) (fz := true) hJ.1 rfl
  have l3 : (len h 1).toInt ≤ 24 := l2
  have zN : (24 : Int32).toInt = 24 := by decide
  refine pair_rp hJ.1 (M1 := m_X6_type) (M2 := m_X7_type) rfl rfl rfl rfl (x_type_1 b h (gH.eq eq_HCr hJ.1) hb1 hb2) (fun r h1 q => ?_) (fun r h1 q => ?_)
  · rcases q with ⟨-, q⟩ | ⟨-, q⟩
    · exact q.m hJ.2.1
    · exact q.m hJ.2.1
  · rcases q with ⟨q0, q⟩ | ⟨q0, q⟩
    · have et : typ h1 1 = len h 1 := by rw [q.t 1, ← hj0]
      refine (y_type_1 b h1 (gH.eq eq_HMr (q.m hJ.2.1)) hb1 (by omega) (by rw [et]; omega)).mono (fun r2 h2 w => ?_)
      rcases w with ⟨-, w⟩ | ⟨w0, w⟩
      · exact comb q w rfl (fun j hj => by rw [q.t j, hJ.2.2 j hj])
      · exact absurd (Int32.toInt_inj.mp (by rw [et, zN]; omega)) w0
    · have et : typ h1 1 = len h 1 := by rw [q.t 1, ← hj0]
      refine (y_type_1 b h1 (gH.eq eq_HMr (q.m hJ.2.1)) hb1 (by omega) (by rw [et]; omega)).mono (fun r2 h2 w => ?_)
      rcases w with ⟨w0, w⟩ | ⟨-, w⟩
      · have : (len h 1).toInt = 24 := by rw [← et, w0, zN]
        omega
      · refine comb q w (by rw [et]) (fun j hj => ?_)
        show (if j = 1 then len h 1 + 1 else len h j) = (if j = 1 then typ h1 1 + 1 else typ h1 j)
        rw [et, q.t j, hJ.2.2 j hj]
theorem pair_wipe_2 {h : MH} (hJ : J1 h) : PairOK J1 TE 32 102 [.int 2] h := by
  refine pair_rp hJ.1 (M1 := m_X6_wipe) (M2 := m_X7_wipe) rfl rfl rfl rfl (x_wipe_2 h (gH.eq eq_HCr hJ.1)) (fun r h1 q => q.m hJ.2.1) (fun r h1 q => ?_)
  refine (y_wipe 2 h1 (gH.eq eq_HMr (q.m hJ.2.1)) (by decide) (by decide)).mono (fun r2 h2 w => comb q w ?_ (fun j hj => ?_))
  · rw [hJ.2.2 2 (by omega), ← q.t 2]
    rfl
  · show (if j = 2 then 0 else len h j) = (if j = 2 then 0 else typ h1 j)
    rw [q.t j, hJ.2.2 j hj]
theorem pair_undo_2 {h : MH} (hJ : J1 h) : PairOK J1 TE 33 103 [.int 2] h := by
  refine pair_rp hJ.1 (M1 := m_X6_undo) (M2 := m_X7_undo) rfl rfl rfl rfl (x_undo_2 h (gH.eq eq_HCr hJ.1)) (fun r h1 q => ?_) (fun r h1 q => ?_)
  · rcases q with ⟨-, q⟩ | ⟨-, q⟩
    · exact q.m hJ.2.1
    · exact q.m hJ.2.1
  · have hj0 := hJ.2.2 2 (by omega)
    rcases q with ⟨q0, q⟩ | ⟨q0, q⟩
    · refine (y_undo 2 h1 (gH.eq eq_HMr (q.m hJ.2.1)) (by decide) (by decide)).mono (fun r2 h2 w => ?_)
      have et : typ h1 2 = 0 := by rw [q.t 2, ← hj0, q0]
      rcases w with ⟨-, w⟩ | ⟨w0, w⟩
      · exact comb q w rfl (fun j hj => by rw [q.t j, hJ.2.2 j hj])
      · exact absurd et w0
    · refine (y_undo 2 h1 (gH.eq eq_HMr (q.m hJ.2.1)) (by decide) (by decide)).mono (fun r2 h2 w => ?_)
      have et : typ h1 2 = len h 2 := by rw [q.t 2, ← hj0]
      rcases w with ⟨w0, w⟩ | ⟨-, w⟩
      · exact absurd (et.symm.trans w0) q0
      · refine comb q w (by rw [← et]; rfl) (fun j hj => ?_)
        show (if j = 2 then len h 2 - 1 else len h j) = (if j = 2 then typ h1 2 - 1 else typ h1 j)
        rw [et, q.t j, hJ.2.2 j hj]
theorem pair_type_2 {h : MH} (b : Int32) (hb1 : 0 ≤ b.toInt) (hb2 : b.toInt < 256) (hJ : J1 h) : PairOK J1 TE 31 101 [.int 2, .int b] h := by
  have hj0 := hJ.2.2 2 (by omega)
  obtain ⟨-, -, -, l1, l2⟩ := fI_sp (ci := 4) (k := 1) (a := 109 + 2 * 2) (lo := 0) (hi := 24) (fz := true) hJ.1 rfl
  have l3 : (len h 2).toInt ≤ 24 := l2
  have zN : (24 : Int32).toInt = 24 := by decide
  refine pair_rp hJ.1 (M1 := m_X6_type) (M2 := m_X7_type) rfl rfl rfl rfl (x_type_2 b h (gH.eq eq_HCr hJ.1) hb1 hb2) (fun r h1 q => ?_) (fun r h1 q => ?_)
  · rcases q with ⟨-, q⟩ | ⟨-, q⟩
    · exact q.m hJ.2.1
    · exact q.m hJ.2.1
  · rcases q with ⟨q0, q⟩ | ⟨q0, q⟩
    · have et : typ h1 2 = len h 2 := by rw [q.t 2, ← hj0]
      refine (y_type_2 b h1 (gH.eq eq_HMr (q.m hJ.2.1)) hb1 (by omega) (by rw [et]; omega)).mono (fun r2 h2 w => ?_)
      rcases w with ⟨-, w⟩ | ⟨w0, w⟩
      · exact comb q w rfl (fun j hj => by rw [q.t j, hJ.2.2 j hj])
      · exact absurd (Int32.toInt_inj.mp (by rw [et, zN]; omega)) w0
    · have et : typ h1 2 = len h 2 := by rw [q.t 2, ← hj0]
      refine (y_type_2 b h1 (gH.eq eq_HMr (q.m hJ.2.1)) hb1 (by omega) (by rw [et]; omega)).mono (fun r2 h2 w => ?_)
      rcases w with ⟨w0, w⟩ | ⟨-, w⟩
      · have : (len h 2).toInt = 24 := by rw [← et, w0, zN]
        omega
      · refine comb q w (by rw [et]) (fun j hj => ?_)
        show (if j = 2 then len h 2 + 1 else len h j) = (if j = 2 then typ h1 2 + 1 else typ h1 j)
        rw [et, q.t j, hJ.2.2 j hj]
theorem pair_wipe {h : MH} (t : Int32) (hJ : J1 h) : PairOK J1 TE 32 102 [.int t] h := by
  by_cases ht : 0 ≤ t.toInt ∧ t.toInt < 3
  · rcases x_012 ht.1 ht.2 with rfl | rfl | rfl
    · exact pair_wipe_0 hJ
    · exact pair_wipe_1 hJ
    · exact pair_wipe_2 hJ
  · exact pair_bad hJ (M1 := m_X6_wipe) (M2 := m_X7_wipe) rfl rfl rfl rfl (x_wipe_bad t h ht) (y_wipe_bad t h (by omega))
theorem pair_undo {h : MH} (t : Int32) (hJ : J1 h) : PairOK J1 TE 33 103 [.int t] h := by
  by_cases ht : 0 ≤ t.toInt ∧ t.toInt < 3
  · rcases x_012 ht.1 ht.2 with rfl | rfl | rfl
    · exact pair_undo_0 hJ
    · exact pair_undo_1 hJ
    · exact pair_undo_2 hJ
  · exact pair_bad hJ (M1 := m_X6_undo) (M2 := m_X7_undo) rfl rfl rfl rfl (x_undo_bad t h ht) (y_undo_bad t h (by omega))
theorem pair_type {h : MH} (t b : Int32) (hJ : J1 h) : PairOK J1 TE 31 101 [.int t, .int b] h := by
  by_cases ht : (0 ≤ t.toInt ∧ t.toInt < 3) ∧ (0 ≤ b.toInt ∧ b.toInt < 256)
  · rcases x_012 ht.1.1 ht.1.2 with rfl | rfl | rfl
    · exact pair_type_0 b ht.2.1 ht.2.2 hJ
    · exact pair_type_1 b ht.2.1 ht.2.2 hJ
    · exact pair_type_2 b ht.2.1 ht.2.2 hJ
  · exact pair_bad hJ (M1 := m_X6_type) (M2 := m_X7_type) rfl rfl rfl rfl (x_type_bad t b h ht) (y_type_bad t b h (by omega))
