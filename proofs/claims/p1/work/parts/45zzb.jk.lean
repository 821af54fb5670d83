/-! THE INVARIANT OF ALL CALLS: ranges (J1), and all that is kept alike (KF) -/
def frzF (f : AF) : Bool := match f with
  | .inl _ => true
  | .inr (_, _, fz) => fz
def frzAll (c : AC) : Bool := match c with
  | .inl (_, _, _, _, fz) => fz
  | .inr (.inr (_, fs)) => fs.all frzF
  | _ => false
theorem cI_cong {h h1 : MH} {a : Nat} (e : h1[a]? = h[a]?) (j : Nat) : cI h1 a j = cI h a j := by unfold cI; rw [e]
theorem cI_fz {H : AH} {h h1 : MH} {ci k a : Nat} {lo hi : Int} (f : fH H h h1) (g : gH H h) (g1 : gH H h1) (hf : a_fd H ci k a = some (.inr (lo, hi, true))) : cI h1 a k = cI h a k := by
  obtain ⟨fs, vs, v, hc, hfk, hx, -, hv, -, -⟩ := fd_sp g hf
  obtain ⟨fs2, ws, w, hc2, -, hy, -, hw, -, -⟩ := fd_sp g1 hf
  obtain ⟨us, e1, e2⟩ := f a _ _ _ hc hx hy ci vs rfl
  cases e1
  have e3 := e2 k _ hfk (fun l u q => by cases q)
  unfold cI
  rw [hx, hy]
  dsimp only
  rw [e3]
theorem cI_all {H : AH} {h h1 : MH} {a : Nat} {c : AC} (f : fH H h h1) (g : gH H h) (g1 : gH H h1) (hc : H[a]? = some c) (hz : frzAll c = true) (j : Nat) : cI h1 a j = cI h a j := by
  rcases c with ⟨t, n, lo, hi, fz⟩ | ⟨t, rs⟩ | ⟨ci, fs⟩
  · have hz : fz = true := hz
    subst hz
    exact cI_cong (cell_fz f g g1 hc) j
  · cases hz
  · obtain ⟨x, hx, vs, e, hl, hb⟩ := g.2 a _ hc
    obtain ⟨y, hy, ws, e', hl', hb'⟩ := g1.2 a _ hc
    subst e
    subst e'
    by_cases hj : j < fs.length
    · have hfj : fs[j]? = some fs[j] := List.getElem?_eq_getElem hj
      have hz := List.all_eq_true.mp hz _ (List.getElem_mem hj)
      obtain ⟨v, hv, gv⟩ := hb j _ hfj
      obtain ⟨w, hw, gw⟩ := hb' j _ hfj
      cases hq : fs[j] with
      | inl r =>
        rw [hq] at gv gw
        unfold cI
        rw [hx, hy]
        dsimp only
        rw [hv, hw]
        have ev : v = .ref r := gv
        have ew : w = .ref r := gw
        rw [ev, ew]
      | inr p =>
        obtain ⟨lo, hi, fz⟩ := p
        rw [hq] at hz hfj
        have hz : fz = true := hz
        subst hz
        exact cI_fz (ci := ci) (lo := lo) (hi := hi) f g g1 (by
          unfold a_fd
          rw [hc]
          dsimp only
          rw [if_pos rfl, hfj])
    · unfold cI
      rw [hx, hy]
      dsimp only
      rw [List.getElem?_eq_none (by omega), List.getElem?_eq_none (by omega)]
def frzW (H : AH) (w : Nat × Nat × Option Nat) : Bool := (List.range (w.2.1 + 1)).all (fun a => Nat.blt a w.1 || (match w.2.2 with
  | none => (match H[a]? with | some c => frzAll c | none => false)
  | some k => (match H[a]? with | some (.inr (.inr (_, fs))) => (match fs[k]? with | some (.inr (_, _, true)) => true | _ => false) | _ => false)))
theorem ag_fz {H : AH} {h h1 : MH} (D : LW) (hD : D.all (frzW H) = true) (f : fH H h h1) (g : gH H h) (g1 : gH H h1) : Ag D (cI h) (cI h1) := fun a j q => by
  obtain ⟨⟨lo, hi, p⟩, w1, w2⟩ := List.any_eq_true.mp q
  obtain ⟨a1, c⟩ := b_and w2
  obtain ⟨a2, e⟩ := b_and c
  have a1 : lo ≤ a := Nat.ble_eq.mp a1
  have a2 : a ≤ hi := Nat.ble_eq.mp a2
  have k := List.all_eq_true.mp (List.all_eq_true.mp hD _ w1) a (List.mem_range.mpr (by show a < hi + 1; omega))
  rcases (Bool.or_eq_true _ _).mp k with k | k
  · have k : a < lo := by simpa [Nat.blt_eq] using k
    omega
  · cases p with
    | none =>
      have k : (match H[a]? with | some c => frzAll c | none => false) = true := k
      cases hc : H[a]? with
      | none => rw [hc] at k; cases k
      | some c =>
        rw [hc] at k
        exact cI_all f g g1 hc k j
    | some m =>
      have e : m = j := by simpa using e
      subst e
      have k : (match H[a]? with | some (.inr (.inr (_, fs))) => (match fs[m]? with | some (.inr (_, _, true)) => true | _ => false) | _ => false) = true := k
      split at k
      · rename_i ci fs hc
        split at k
        · rename_i lo2 hi2 hf
          exact cI_fz (ci := ci) (lo := lo2) (hi := hi2) f g g1 (by
            unfold a_fd
            rw [hc]
            dsimp only
            rw [if_pos rfl, hf])
        · cases k
      · cases k
theorem ag_from {h h1 : MH} (D : LW) (hD : D.all (fun w => Nat.ble 123 w.1) = true) (s : sameFrom 123 h h1) : Ag D (cI h) (cI h1) := fun a j q => by
  obtain ⟨w, w1, w2⟩ := List.any_eq_true.mp q
  obtain ⟨a1, -⟩ := b_and w2
  have k := Nat.ble_eq.mp (List.all_eq_true.mp hD _ w1)
  have a1 := Nat.ble_eq.mp a1
  exact cI_cong (s a (by omega)) j
theorem ag_to {h h1 : MH} (D : LW) (hD : D.all (fun w => Nat.blt w.2.1 123) = true) (s : sameTo 123 h h1) : Ag D (cI h) (cI h1) := fun a j q => by
  obtain ⟨w, w1, w2⟩ := List.any_eq_true.mp q
  obtain ⟨-, c⟩ := b_and w2
  obtain ⟨a2, -⟩ := b_and c
  have k : w.2.1 < 123 := by simpa [Nat.blt_eq] using List.all_eq_true.mp hD _ w1
  have a2 := Nat.ble_eq.mp a2
  exact cI_cong (s a (by omega)) j
theorem Ag.app {D1 D2 : LW} {s s1 : SG} (a : Ag D1 s s1) (b : Ag D2 s s1) : Ag (D1 ++ D2) s s1 := fun x j q => by
  have q : (D1 ++ D2).any (fun w => Nat.ble w.1 x && (Nat.ble x w.2.1 && (match w.2.2 with | none => true | some k => k == j))) = true := q
  rw [List.any_append] at q
  rcases (Bool.or_eq_true _ _).mp q with q | q
  · exact a x j q
  · exact b x j q
def DFc : LW := [(0, 0, some 4), (0, 0, some 12), (0, 0, some 13), (2, 2, some 3), (3, 5, none), (6, 6, some 2), (7, 8, none), (10, 10, some 0), (10, 10, some 5), (10, 10, some 6), (11, 14, none), (15, 15, some 8), (16, 20, none), (22, 47, none), (96, 96, none), (109, 114, none), (115, 122, none)]
def DGm : LW := [(123, 123, some 9), (123, 123, some 10), (123, 123, some 11), (123, 123, some 37), (123, 123, some 46), (124, 125, none), (130, 132, none), (145, 146, none), (148, 151, none)]
theorem fz_M : DGm.all (frzW HM) = true := by decide +kernel
def JK (h : MH) : Prop := J1 h ∧ KF (cI h)
theorem JK.c (h : MH) (j : JK h) : gH HCs h := j.1.1
theorem JK.m (h : MH) (j : JK h) : gH HMs h := j.1.2.1
theorem JK_M : Jst JK HM := fun h h1 j g1 f => ⟨J1_M h h1 j.1 g1 f, j.2.ag (((ag_to DFc rfl (to_of any_M f (gH.eq eq_HMr j.1.2.1) g1)).app (ag_fz DGm fz_M f (gH.eq eq_HMr j.1.2.1) g1)).sub rfl)⟩
theorem RP.uq {M : MM} {y : Nat} {L : ML} {h : MH} {P : Option Value → MH → Prop} {Q : Option Value → SG → Prop} (k : RP M 0 L [] h P) (hy : m_tab[y]? = some M) (my : y ∈ msU) (g : gH HU h) (u : UP M 0 L [] (cI h) Q) : RP M 0 L [] h (fun r h1 => P r h1 ∧ Q r (cI h1)) := by
  obtain ⟨r, h1, ⟨n, hn⟩, p⟩ := k
  obtain ⟨a, -⟩ := usim n y M 0 L L [] h r h1 my hy g (lqL.rf _) hn
  exact ⟨r, h1, ⟨n, hn⟩, p, u n _ a⟩
section PK
variable {y1 y2 : Nat} {M1 M2 : MM} {as : List Value} {h : MH}
/-- a pair of calls, both told as functions -/
theorem up_q {T : Option Value → Option Value → Prop} {c : Int32 × SG} {m : SG → Int32 × SG} (p : PairOK J1 T y1 y2 as h) (hJ : JK h) (e1 : m_tab[y1]? = some M1) (e2 : m_tab[y2]? = some M2) (m1 : y1 ∈ msU) (m2 : y2 ∈ msU) (kx : UP M1 0 (m_ent (mx M1) (.ref 0 :: as)) [] (cI h) (Qb c)) (km : UP M2 0 (m_ent (mx M2) (.ref 123 :: as)) [] c.2 (Qb (m c.2))) (q : QK c m) : PairOK JK TE y1 y2 as h := by
  refine PairOK.up (K := KF) (T' := TE) (QX := Qb c) (QY := fun _ _ => Qb (m c.2)) p hJ.1 e1 e2 m1 m2 kx (fun r s1 a => by rw [a.2]; exact km) (fun r s1 r2 h2 a b _ _ => ⟨⟨c.1, a.1, ?_⟩, ?_⟩)
  · rw [b.1, q.2]
  · rw [b.2]; exact q.1
/-- and only what is kept -/
theorem up_k {T : Option Value → Option Value → Prop} {c : Int32 × SG} {m : SG → Int32 × SG} (p : PairOK J1 T y1 y2 as h) (hJ : JK h) (e1 : m_tab[y1]? = some M1) (e2 : m_tab[y2]? = some M2) (m1 : y1 ∈ msU) (m2 : y2 ∈ msU) (kx : UP M1 0 (m_ent (mx M1) (.ref 0 :: as)) [] (cI h) (Qb c)) (km : UP M2 0 (m_ent (mx M2) (.ref 123 :: as)) [] c.2 (Qb (m c.2))) (q : KF (m c.2).2) : PairOK JK T y1 y2 as h := by
  refine PairOK.up (K := KF) (T' := T) (QX := Qb c) (QY := fun _ _ => Qb (m c.2)) p hJ.1 e1 e2 m1 m2 kx (fun r s1 a => by rw [a.2]; exact km) (fun r s1 r2 h2 a b t _ => ⟨t, ?_⟩)
  rw [b.2]; exact q
/-- the class told by KF alone, the model by what it leaves -/
theorem up_i (hJ : JK h) (e1 : m_tab[y1]? = some M1) (e2 : m_tab[y2]? = some M2) (b1 : Nat.ble (entL (.ref 0 :: as)).length (mx M1) = true) (b2 : Nat.ble (entL (.ref 123 :: as)).length (mx M2) = true) (m1 : y1 ∈ msU) (kx : SPi HC M1 (.ref 0 :: as) h) (ux : UP M1 0 (m_ent (mx M1) (.ref 0 :: as)) [] (cI h) KI) (km : ∀ h1, JK h1 → SPi HM M2 (.ref 123 :: as) h1) : PairOK JK TA y1 y2 as h := by
  refine pair_rp (PX := fun r h1 => (∃ v, r = some (.int v)) ∧ JK h1) hJ.1.1 e1 e2 b1 b2 ((RP.uq kx e1 m1 (hu_of hJ.1.1 hJ.1.2.1) ux).mono (fun r h1 q => ⟨q.1.1, J1_C h h1 hJ.1 q.1.2.1 q.1.2.2, q.2.2⟩)) (fun r h1 q => q.2.1.2.1) (fun r h1 q => ?_)
  exact (km h1 q.2).mono (fun r2 h2 w => ⟨⟨q.1, w.1⟩, JK_M h1 h2 q.2 w.2.1 w.2.2⟩)
theorem up_l (hJ : JK h) (e1 : m_tab[y1]? = some M1) (e2 : m_tab[y2]? = some M2) (b1 : Nat.ble (entL (.ref 0 :: as)).length (mx M1) = true) (b2 : Nat.ble (entL (.ref 123 :: as)).length (mx M2) = true) (m1 : y1 ∈ msU) (kx : SPl HC M1 (.ref 0 :: as) h) (ux : UP M1 0 (m_ent (mx M1) (.ref 0 :: as)) [] (cI h) KL) (km : ∀ h1, JK h1 → SPl HM M2 (.ref 123 :: as) h1) : PairOK JK TL y1 y2 as h := by
  refine pair_rp (PX := fun r h1 => (∃ v, r = some (.long v)) ∧ JK h1) hJ.1.1 e1 e2 b1 b2 ((RP.uq kx e1 m1 (hu_of hJ.1.1 hJ.1.2.1) ux).mono (fun r h1 q => ⟨q.1.1, J1_C h h1 hJ.1 q.1.2.1 q.1.2.2, q.2.2⟩)) (fun r h1 q => q.2.1.2.1) (fun r h1 q => ?_)
  exact (km h1 q.2).mono (fun r2 h2 w => ⟨⟨q.1, w.1⟩, JK_M h1 h2 q.2 w.2.1 w.2.2⟩)
end PK
