/-! WHAT IF: the class's other course, the model's changed inputs -/
def updN (f : NI) (m : Nat) (v : Int32) : NI := fun t => if t = m then v else f t
def tJ (s : SG) (so po ra ru : NI) (mask : Int32) : TI := ((s 10 0).toNatClampNeg, so, po, fun k => Int32.ofNat k, ra, ru, s 10 5, s 10 6, befC s mask)
def Wo : LW := [(59, 63, none), (65, 88, none), (89, 95, none), (58, 58, some 8), (53, 57, none), (98, 108, none)]
/-- the other course -/
def OtC (s w : SG) (so po ra ru : NI) : Prop := w 53 0 = s 10 0 ∧ (∀ k, k < 8 → w 54 k = so k ∧ w 55 k = po k) ∧ (∀ t, t < 24 → w 56 t = ra t ∧ w 57 t = ru t) ∧ w 53 5 = s 10 5 ∧ w 53 6 = s 10 6 ∧ Fr Wo s w
theorem otTake (s : SG) : OtC s (F_take s) (s 11) (s 12) (s 13) (s 14) := by
  have f := fr_take s
  have e : F_take s = (uset (uset (mvs (mvs (mvs (mvs (uset s 53 0 (s 10 0)) 11 0 54 0 8) 12 0 55 0 8) 13 0 56 0 24) 14 0 57 0 24) 53 5 ((mvs (mvs (mvs (mvs (uset s 53 0 (s 10 0)) 11 0 54 0 8) 12 0 55 0 8) 13 0 56 0 24) 14 0 57 0 24) 10 5)) 53 6 ((mvs (mvs (mvs (mvs (uset s 53 0 (s 10 0)) 11 0 54 0 8) 12 0 55 0 8) 13 0 56 0 24) 14 0 57 0 24) 10 6)) := rfl
  have mn : ∀ (y : SG) (a0 i a1 j n b k : Nat), b ≠ a1 → mvs y a0 i a1 j n b k = y b k := fun y a0 i a1 j n b k h => if_neg (fun q => h q.1)
  have mi : ∀ (y : SG) (a0 a1 n k : Nat), k < n → mvs y a0 0 a1 0 n a1 k = y a0 k := fun y a0 a1 n k h => by
    have e : mvs y a0 0 a1 0 n a1 k = y a0 (0 + (k - 0)) := if_pos ⟨rfl, by omega, by omega⟩
    rw [e]
    congr 1
    omega
  refine ⟨?_, fun k hk => ⟨?_, ?_⟩, fun t ht => ⟨?_, ?_⟩, ?_, ?_, f.wk rfl⟩
  · rw [e, uset_nj (by decide), uset_nj (by decide), mn _ _ _ _ _ _ _ _ (by decide), mn _ _ _ _ _ _ _ _ (by decide), mn _ _ _ _ _ _ _ _ (by decide), mn _ _ _ _ _ _ _ _ (by decide)]
    exact uset_eq _ _ _ _
  · rw [e, uset_na (by decide), uset_na (by decide), mn _ _ _ _ _ _ _ _ (by decide), mn _ _ _ _ _ _ _ _ (by decide), mn _ _ _ _ _ _ _ _ (by decide), mi _ _ _ _ _ hk]
    exact uset_na (by decide)
  · rw [e, uset_na (by decide), uset_na (by decide), mn _ _ _ _ _ _ _ _ (by decide), mn _ _ _ _ _ _ _ _ (by decide), mi _ _ _ _ _ hk, mn _ _ _ _ _ _ _ _ (by decide)]
    exact uset_na (by decide)
  · rw [e, uset_na (by decide), uset_na (by decide), mn _ _ _ _ _ _ _ _ (by decide), mi _ _ _ _ _ ht, mn _ _ _ _ _ _ _ _ (by decide), mn _ _ _ _ _ _ _ _ (by decide)]
    exact uset_na (by decide)
  · rw [e, uset_na (by decide), uset_na (by decide), mi _ _ _ _ _ ht, mn _ _ _ _ _ _ _ _ (by decide), mn _ _ _ _ _ _ _ _ (by decide), mn _ _ _ _ _ _ _ _ (by decide)]
    exact uset_na (by decide)
  · rw [e, uset_nj (by decide), uset_eq, mn _ _ _ _ _ _ _ _ (by decide), mn _ _ _ _ _ _ _ _ (by decide), mn _ _ _ _ _ _ _ _ (by decide), mn _ _ _ _ _ _ _ _ (by decide)]
    exact uset_na (by decide)
  · rw [e, uset_eq, mn _ _ _ _ _ _ _ _ (by decide), mn _ _ _ _ _ _ _ _ (by decide), mn _ _ _ _ _ _ _ _ (by decide), mn _ _ _ _ _ _ _ _ (by decide)]
    exact uset_na (by decide)
section OTC
variable {s w : SG} {so po ra ru : NI}
theorem OtC.wru (o : OtC s w so po ra ru) (m : Nat) (v : Int32) : OtC s (uset w 57 m v) so po ra (updN ru m v) := by
  obtain ⟨o1, o2, o3, o4, o5, o6⟩ := o
  refine ⟨(uset_na (by decide)).trans o1, fun k hk => ⟨(uset_na (by decide)).trans (o2 k hk).1, (uset_na (by decide)).trans (o2 k hk).2⟩, fun t ht => ⟨(uset_na (by decide)).trans (o3 t ht).1, ?_⟩, (uset_na (by decide)).trans o4, (uset_na (by decide)).trans o5, Fr.uset rfl o6⟩
  unfold updN
  by_cases e : t = m
  · rw [if_pos e, e]; exact uset_eq _ _ _ _
  · rw [if_neg e, uset_nj e]; exact (o3 t ht).2
theorem OtC.wra (o : OtC s w so po ra ru) (m : Nat) (v : Int32) : OtC s (uset w 56 m v) so po (updN ra m v) ru := by
  obtain ⟨o1, o2, o3, o4, o5, o6⟩ := o
  refine ⟨(uset_na (by decide)).trans o1, fun k hk => ⟨(uset_na (by decide)).trans (o2 k hk).1, (uset_na (by decide)).trans (o2 k hk).2⟩, fun t ht => ⟨?_, (uset_na (by decide)).trans (o3 t ht).2⟩, (uset_na (by decide)).trans o4, (uset_na (by decide)).trans o5, Fr.uset rfl o6⟩
  unfold updN
  by_cases e : t = m
  · rw [if_pos e, e]; exact uset_eq _ _ _ _
  · rw [if_neg e, uset_nj e]; exact (o3 t ht).1
theorem OtC.wpo (o : OtC s w so po ra ru) (m : Nat) (v : Int32) : OtC s (uset w 55 m v) so (updN po m v) ra ru := by
  obtain ⟨o1, o2, o3, o4, o5, o6⟩ := o
  refine ⟨(uset_na (by decide)).trans o1, fun k hk => ⟨(uset_na (by decide)).trans (o2 k hk).1, ?_⟩, fun t ht => ⟨(uset_na (by decide)).trans (o3 t ht).1, (uset_na (by decide)).trans (o3 t ht).2⟩, (uset_na (by decide)).trans o4, (uset_na (by decide)).trans o5, Fr.uset rfl o6⟩
  unfold updN
  by_cases e : k = m
  · rw [if_pos e, e]; exact uset_eq _ _ _ _
  · rw [if_neg e, uset_nj e]; exact (o2 k hk).2
theorem OtC.wso (o : OtC s w so po ra ru) (m : Nat) (v : Int32) : OtC s (uset w 54 m v) (updN so m v) po ra ru := by
  obtain ⟨o1, o2, o3, o4, o5, o6⟩ := o
  refine ⟨(uset_na (by decide)).trans o1, fun k hk => ⟨?_, (uset_na (by decide)).trans (o2 k hk).2⟩, fun t ht => ⟨(uset_na (by decide)).trans (o3 t ht).1, (uset_na (by decide)).trans (o3 t ht).2⟩, (uset_na (by decide)).trans o4, (uset_na (by decide)).trans o5, Fr.uset rfl o6⟩
  unfold updN
  by_cases e : k = m
  · rw [if_pos e, e]; exact uset_eq _ _ _ _
  · rw [if_neg e, uset_nj e]; exact (o2 k hk).1
theorem OtC.cg {so2 po2 ra2 ru2 : NI} (o : OtC s w so po ra ru) (h1 : ∀ k, so k = so2 k) (h2 : ∀ k, po k = po2 k) (h3 : ∀ t, ra t = ra2 t) (h4 : ∀ t, ru t = ru2 t) : OtC s w so2 po2 ra2 ru2 := by
  rw [← funext h1, ← funext h2, ← funext h3, ← funext h4]
  exact o
end OTC
theorem upd2 (f : NI) (m : Nat) (x v : Int32) : updN (updN f m x) m v = updN f m v := by
  funext t
  unfold updN
  by_cases e : t = m
  · rw [if_pos e, if_pos e]
  · rw [if_neg e, if_neg e, if_neg e]
theorem updS (f : NI) (m : Nat) : updN f m (f m) = f := by
  funext t
  unfold updN
  by_cases e : t = m
  · rw [if_pos e, e]
  · rw [if_neg e]
/-- what the other trip shows -/
def COb (J : TI) (z : SG) : Prop := ∀ t, t < 24 → z 59 t = sme (trip J (t + 1)) ∧ z 60 t = spl' (trip J (t + 1)) ∧ z 63 t = gr' J t (trip J t)
theorem rowO {s w : SG} {so po ra ru : NI} (h8 : (s 10 0).toNatClampNeg ≤ 8) (hev : evC s) (o : OtC s w so po ra ru) : COb (tJ s so po ra ru 255) (F_rowOther w) ∧ OtC s (F_rowOther w) so po ra ru := by
  obtain ⟨o1, o2, o3, o4, o5, o6⟩ := o
  have hn : (w 53 0).toNatClampNeg ≤ 8 := by rw [o1]; exact h8
  have hew : evC w := by
    unfold evC at *
    rw [o6 2 3 rfl]
    intro e he
    rw [o6 3 e rfl, o6 4 e rfl]
    exact hev e he
  obtain ⟨m, p, R⟩ := rowC_b (s := w) (mask := 255) hn hew
  have eF : F_rowOther w = F_row_b w 255 := rfl
  rw [eF]
  generalize F_row_b w 255 = z at *
  obtain ⟨f, -, -, -, -, -, r4⟩ := R
  have f : Fr W_row_b w z := f
  have r4 : OuC_b (inC_b w 255) 24 z := r4
  have eb : befC w 255 = befC s 255 := befC_ag (o6.ag DJ rfl) 255
  have E : eqJ (inC_b w 255) (tJ s so po ra ru 255) := by
    have en : jn (inC_b w 255) = (s 10 0).toNatClampNeg := by show (w 53 0).toNatClampNeg = _; rw [o1]
    refine ⟨en, fun k hk => ?_, fun t ht => ?_, o4, o5⟩
    · rw [en] at hk
      exact ⟨(o2 k (by omega)).1, (o2 k (by omega)).2, rfl⟩
    · refine ⟨(o3 t ht).1, (o3 t ht).2, ?_⟩
      show befC w 255 t = befC s 255 t
      rw [eb]
  refine ⟨fun t ht => ?_, ⟨(f 53 0 rfl).trans o1, fun k hk => ⟨(f 54 k rfl).trans (o2 k hk).1, (f 55 k rfl).trans (o2 k hk).2⟩, fun t ht => ⟨(f 56 t rfl).trans (o3 t ht).1, (f 57 t rfl).trans (o3 t ht).2⟩, (f 53 5 rfl).trans o4, (f 53 6 rfl).trans o5, o6.tr (f.wk rfl)⟩⟩
  obtain ⟨a1, a2, -, -, a5, -⟩ := r4 t ht
  have T := trip_c E (t + 1) (by omega)
  exact ⟨a1.trans T.1, a2.trans T.2.1, a5.trans (gr_t E ht)⟩
/-- the model's inputs, changed -/
def MtC (s z : SG) (so po ra ru : NI) (set : Int32) : Prop := z 123 2 = s 10 0 ∧ (∀ k, k < (s 10 0).toNatClampNeg → z 126 k = so k ∧ z 127 k = po k) ∧ (∀ t, t < 24 → z 133 t = ra t ∧ z 134 t = ru t) ∧ (∀ k, k < 8 → z 135 k = Int32.ofNat k) ∧ z 123 17 = set ∧ Fr W_asTold s z
theorem mtTold {s : SG} (t : KT s) (c : KC s) : MtC s (F_asTold s) (s 11) (s 12) (s 13) (s 14) 0 := asT t c
section MTC
variable {s z : SG} {so po ra ru : NI} {set : Int32}
theorem MtC.wru (o : MtC s z so po ra ru set) (m : Nat) (v : Int32) : MtC s (uset z 134 m v) so po ra (updN ru m v) set := by
  obtain ⟨o1, o2, o3, o4, o5, o6⟩ := o
  refine ⟨(uset_na (by decide)).trans o1, fun k hk => ⟨(uset_na (by decide)).trans (o2 k hk).1, (uset_na (by decide)).trans (o2 k hk).2⟩, fun t ht => ⟨(uset_na (by decide)).trans (o3 t ht).1, ?_⟩, fun k hk => (uset_na (by decide)).trans (o4 k hk), (uset_na (by decide)).trans o5, Fr.uset rfl o6⟩
  unfold updN
  by_cases e : t = m
  · rw [if_pos e, e]; exact uset_eq _ _ _ _
  · rw [if_neg e, uset_nj e]; exact (o3 t ht).2
theorem MtC.wra (o : MtC s z so po ra ru set) (m : Nat) (v : Int32) : MtC s (uset z 133 m v) so po (updN ra m v) ru set := by
  obtain ⟨o1, o2, o3, o4, o5, o6⟩ := o
  refine ⟨(uset_na (by decide)).trans o1, fun k hk => ⟨(uset_na (by decide)).trans (o2 k hk).1, (uset_na (by decide)).trans (o2 k hk).2⟩, fun t ht => ⟨?_, (uset_na (by decide)).trans (o3 t ht).2⟩, fun k hk => (uset_na (by decide)).trans (o4 k hk), (uset_na (by decide)).trans o5, Fr.uset rfl o6⟩
  unfold updN
  by_cases e : t = m
  · rw [if_pos e, e]; exact uset_eq _ _ _ _
  · rw [if_neg e, uset_nj e]; exact (o3 t ht).1
theorem MtC.wpo (o : MtC s z so po ra ru set) (m : Nat) (v : Int32) : MtC s (uset z 127 m v) so (updN po m v) ra ru set := by
  obtain ⟨o1, o2, o3, o4, o5, o6⟩ := o
  refine ⟨(uset_na (by decide)).trans o1, fun k hk => ⟨(uset_na (by decide)).trans (o2 k hk).1, ?_⟩, fun t ht => ⟨(uset_na (by decide)).trans (o3 t ht).1, (uset_na (by decide)).trans (o3 t ht).2⟩, fun k hk => (uset_na (by decide)).trans (o4 k hk), (uset_na (by decide)).trans o5, Fr.uset rfl o6⟩
  unfold updN
  by_cases e : k = m
  · rw [if_pos e, e]; exact uset_eq _ _ _ _
  · rw [if_neg e, uset_nj e]; exact (o2 k hk).2
theorem MtC.wso (o : MtC s z so po ra ru set) (m : Nat) (v : Int32) : MtC s (uset z 126 m v) (updN so m v) po ra ru set := by
  obtain ⟨o1, o2, o3, o4, o5, o6⟩ := o
  refine ⟨(uset_na (by decide)).trans o1, fun k hk => ⟨?_, (uset_na (by decide)).trans (o2 k hk).2⟩, fun t ht => ⟨(uset_na (by decide)).trans (o3 t ht).1, (uset_na (by decide)).trans (o3 t ht).2⟩, fun k hk => (uset_na (by decide)).trans (o4 k hk), (uset_na (by decide)).trans o5, Fr.uset rfl o6⟩
  unfold updN
  by_cases e : k = m
  · rw [if_pos e, e]; exact uset_eq _ _ _ _
  · rw [if_neg e, uset_nj e]; exact (o2 k hk).1
theorem MtC.wset (o : MtC s z so po ra ru set) (v : Int32) : MtC s (uset z 123 17 v) so po ra ru v := by
  obtain ⟨o1, o2, o3, o4, o5, o6⟩ := o
  exact ⟨(uset_nj (by decide)).trans o1, fun k hk => ⟨(uset_na (by decide)).trans (o2 k hk).1, (uset_na (by decide)).trans (o2 k hk).2⟩, fun t ht => ⟨(uset_na (by decide)).trans (o3 t ht).1, (uset_na (by decide)).trans (o3 t ht).2⟩, fun k hk => (uset_na (by decide)).trans (o4 k hk), uset_eq _ _ _ _, Fr.uset rfl o6⟩
def bitN (set mask : Int32) : Prop := ∀ e, e < 8 → m_cmp .ne ((set >>> ((Int32.ofNat e) &&& 31)) &&& 1) 0 = !(m_cmp .ne ((mask >>> ((Int32.ofNat e) &&& 31)) &&& 1) 0)
theorem runT {mask : Int32} (hE : KE s) (h8 : (s 10 0).toNatClampNeg ≤ 8) (o : MtC s z so po ra ru set) (hb : bitN set mask) (ov : ovJ (tJ s so po ra ru mask)) : MOu (tJ s so po ra ru mask) (F_runs z) ∧ MtC s (F_runs z) so po ra ru set := by
  obtain ⟨o1, o2, o3, o4, o5, f⟩ := o
  have E : eqJ (inM z) (tJ s so po ra ru mask) := by
    have en : jn (inM z) = (s 10 0).toNatClampNeg := by show (z 123 2).toNatClampNeg = _; rw [o1]
    refine ⟨en, fun k hk => ?_, fun t ht => ?_, ?_, ?_⟩
    · rw [en] at hk
      exact ⟨(o2 k hk).1, (o2 k hk).2, o4 k (by omega)⟩
    · exact ⟨(o3 t ht).1, (o3 t ht).2, befT hE f o5 hb t⟩
    · show z 123 9 = s 10 5
      rw [f 123 9 rfl]
      exact hE.2.2.2.2.2.1.symm
    · show z 123 10 = s 10 6
      rw [f 123 10 rfl]
      exact hE.2.2.2.2.2.2.symm
  obtain ⟨r, g⟩ := runMO (z := z) (by rw [o1]; exact h8) (fun k hk => ⟨k, hk, o4 k hk⟩) E ov
  exact ⟨r, (g 123 2 rfl).trans o1, fun k hk => ⟨(g 126 k rfl).trans (o2 k hk).1, (g 127 k rfl).trans (o2 k hk).2⟩, fun t ht => ⟨(g 133 t rfl).trans (o3 t ht).1, (g 134 t rfl).trans (o3 t ht).2⟩, fun k hk => (g 135 k rfl).trans (o4 k hk), (g 123 17 rfl).trans o5, f.tr (g.wk rfl)⟩
end MTC
theorem bit0_ : bitN 0 255 := hb0
theorem ovT {s : SG} {so po ra ru : NI} {mask : Int32} (h8 : (s 10 0).toNatClampNeg ≤ 8) (hp : ∀ k, k < (s 10 0).toNatClampNeg → 1 ≤ (po k).toInt ∧ (po k).toInt ≤ 9) (hr : ∀ t, t < 24 → 0 ≤ (ra t).toInt ∧ (ra t).toInt ≤ 3) : ovJ (tJ s so po ra ru mask) := ovJ_of h8 hp hr
theorem upd_b {f : NI} {m : Nat} {v : Int32} {lo hi : Int} {n : Nat} (h : ∀ t, t < n → lo ≤ (f t).toInt ∧ (f t).toInt ≤ hi) (hv : lo ≤ v.toInt ∧ v.toInt ≤ hi) : ∀ t, t < n → lo ≤ (updN f m v t).toInt ∧ (updN f m v t).toInt ≤ hi := fun t ht => by
  unfold updN
  by_cases e : t = m
  · rw [if_pos e]; exact hv
  · rw [if_neg e]; exact h t ht
theorem ls_b {z : SG} {J : TI} (h : COb J z) : F_lastStray_b z = offP (spl' (trip J 24)) := by
  have e : z 60 23 = spl' (trip J 24) := (h 23 (by omega)).2.1
  unfold F_lastStray_b
  rw [e]
  exact offA (plB J 24)
theorem offB (p : Int32) (h : 0 ≤ p.toInt ∧ p.toInt ≤ 20) : 0 ≤ (offP p).toInt ∧ (offP p).toInt ≤ 10 := by
  have e10 : (10 : Int32).toInt = 10 := by decide
  have d : (p - 10).toInt = p.toInt - 10 := (i32_sub (by omega) (by omega)).trans (by omega)
  have d2 : (10 - p).toInt = 10 - p.toInt := (i32_sub (by omega) (by omega)).trans (by omega)
  unfold offP
  cases q : m_cmp .ge p 10 with
  | true =>
    have := m_ge_iff.mp q
    rw [cT]
    omega
  | false =>
    have := m_ff m_ge_iff q
    rw [cF]
    omega
/-- the model keeps its side beside the class's changes: what it reads is the state before -/
theorem KG.sd {s c : SG} (h : KG s) (f : Fr Wo s c) : KG c ∧ tJ c = tJ s := by
  refine ⟨h.ag (f.ag DG rfl), ?_⟩
  funext so po ra ru mask
  unfold tJ
  rw [befC_ag (f.ag DJ rfl) mask, f 10 0 rfl, f 10 5 rfl, f 10 6 rfl]
/-! steer -/
def sJ (s : SG) (m v : Nat) : TI := tJ s (s 11) (s 12) (s 13) (updN (s 14) m (Int32.ofNat v)) 255
def sV (s : SG) (m v : Nat) : Int32 := offP (spl' (trip (sJ s m v) 24))
def stC (s : SG) (m : Nat) (v : Nat) (x : Int32 × Int32) : Int32 × Int32 := bif m_cmp .ge (sV s m v) x.2 then x else (Int32.ofNat v, sV s m v)
def stM (s : SG) (m : Nat) (v : Nat) (x : Int32 × Int32) : Int32 × Int32 := bif m_cmp .eq (bif m_cmp .eq x.1 (-1) then (1 : Int32) else (bif m_cmp .ge (sV s m v) x.2 then (0 : Int32) else (1 : Int32))) 0 then x else (Int32.ofNat v, sV s m v)
theorem stE (s : SG) (m : Nat) : ∀ i, i < 3 → itr (stC s m) 0 (i + 1) (-1, 20) = itr (stM s m) 0 (i + 1) (-1, 0) ∧ ∃ k, k < 3 ∧ (itr (stM s m) 0 (i + 1) (-1, 0)).1 = Int32.ofNat k := by
  intro i
  induction i with
  | zero =>
    intro _
    rw [itr_0, itr_0, itr_z, itr_z]
    have b := offB _ (plB (sJ s m 0) 24)
    have e : stC s m 0 (-1, 20) = (Int32.ofNat 0, sV s m 0) := by
      unfold stC
      have c : m_cmp .ge (sV s m 0) 20 = false := by
        cases q : m_cmp .ge (sV s m 0) 20 with
        | false => rfl
        | true =>
          have q := m_ge_iff.mp q
          have e20 : (20 : Int32).toInt = 20 := by decide
          have b2 : (sV s m 0).toInt ≤ 10 := b.2
          omega
      show (bif m_cmp .ge (sV s m 0) 20 then _ else _) = _
      rw [c, kF]
    have e2 : stM s m 0 (-1, 0) = (Int32.ofNat 0, sV s m 0) := by
      unfold stM
      show (bif m_cmp .eq (bif m_cmp .eq (-1) (-1) then (1 : Int32) else _) 0 then _ else _) = _
      rw [show m_cmp .eq (-1 : Int32) (-1) = true from rfl, kT, show m_cmp .eq (1 : Int32) 0 = false from rfl, kF]
    rw [e, e2]
    exact ⟨rfl, 0, by decide, rfl⟩
  | succ i ih =>
    intro hi
    obtain ⟨h1, k, hk, h2⟩ := ih (by omega)
    rw [itr_0, itr_0 (stM s m), h1]
    generalize itr (stM s m) 0 (i + 1) (-1, 0) = x at *
    have c : m_cmp .eq x.1 (-1) = false := by
      cases q : m_cmp .eq x.1 (-1) with
      | false => rfl
      | true =>
        have q := m_eq_iff.mp q
        rw [h2] at q
        exact absurd q (ofn_ne (by omega))
    unfold stC stM
    rw [c, kF]
    cases m_cmp .ge (sV s m (i + 1)) x.2 with
    | true =>
      rw [kT, kT, show m_cmp .eq (0 : Int32) 0 = true from rfl, kT]
      exact ⟨rfl, k, hk, h2⟩
    | false =>
      rw [kF, kF, show m_cmp .eq (1 : Int32) 0 = false from rfl, kF]
      exact ⟨rfl, i + 1, hi, rfl⟩
theorem q_steer {s : SG} (h : KF s) (mi wh : Int32) : QK (F_csteer s mi wh) (fun y => F_steer y mi wh) := by
  refine ⟨(kf_steer h mi wh).ag ((fr_steer _ mi wh).ag DF rfl), ?_⟩
  have eC : F_csteer s mi wh = bif m_cmp .eq (F_isBelow s mi 24) 0 then (((-2), s)) else (bif m_cmp .ne (F_isBelow s wh 2) 0 then (bif m_cmp .ne wh 0 then (itr (B_csteer_21 mi) 0 3 (F_take s, (-1), 20)).2.2 else (itr (B_csteer_21 mi) 0 3 (F_take s, (-1), 20)).2.1, (itr (B_csteer_21 mi) 0 3 (F_take s, (-1), 20)).1) else (((-2), s))) := rfl
  have eM : ∀ y, F_steer y mi wh = bif m_cmp .eq (F_isMinute y mi) 0 then ((-2 : Int32), y) else (bif m_cmp .eq (F_isTwo y wh) 0 then ((-2 : Int32), y) else (bif m_cmp .ne wh 0 then (itr (B_steerOf_8 mi) 0 3 (F_asTold y, (-1), 0)).2.2 else (itr (B_steerOf_8 mi) 0 3 (F_asTold y, (-1), 0)).2.1, (itr (B_steerOf_8 mi) 0 3 (F_asTold y, (-1), 0)).1)) := fun _ => rfl
  dsimp only
  rw [eC, bl_e, bl_n]
  cases q : bl mi 24 with
  | false => rw [lF, kT, eM, isM_e, q, lF, kT]
  | true =>
    rw [lT, kF]
    cases q2 : bl wh 2 with
    | false => rw [kF, eM, isM_e, q, lT, kF, is2_e, q2, lF, kT]
    | true =>
      rw [kT]
      have h8 := row8 h.1.1.1 h.1.2.1.1
      have hpw : ∀ k, k < (s 10 0).toNatClampNeg → 1 ≤ (s 12 k).toInt ∧ (s 12 k).toInt ≤ 9 := fun k hk => pw19 h.1.1.1 h.1.2.1.1 hk
      have hrt : ∀ t, t < 24 → 0 ≤ (s 13 t).toInt ∧ (s 13 t).toInt ≤ 3 := fun t ht => rt03 h.1.2.1.2.1 ht
      have A : ∀ i, i ≤ 3 → (∃ x, OtC s (itr (B_csteer_21 mi) 0 i (F_take s, (-1), 20)).1 (s 11) (s 12) (s 13) (updN (s 14) mi.toNatClampNeg x)) ∧ (itr (B_csteer_21 mi) 0 i (F_take s, (-1), 20)).2 = itr (stC s mi.toNatClampNeg) 0 i (-1, 20) := by
        intro i
        induction i with
        | zero => exact fun _ => ⟨⟨s 14 mi.toNatClampNeg, by rw [updS]; exact otTake s⟩, rfl⟩
        | succ i ih =>
          intro hi
          obtain ⟨⟨x, o⟩, e⟩ := ih (by omega)
          rw [itr_0, itr_0, ← e]
          generalize itr (B_csteer_21 mi) 0 i (F_take s, (-1), 20) = a at *
          have o2 := o.wru mi.toNatClampNeg (Int32.ofNat i)
          rw [upd2] at o2
          obtain ⟨r1, r2⟩ := rowO h8 h.1.2.2.1.2.2.2.2.1 o2
          have eB : B_csteer_21 mi i a = (F_rowOther (uset a.1 57 mi.toNatClampNeg (Int32.ofNat i)), (bif m_cmp .ge (F_lastStray_b (F_rowOther (uset a.1 57 mi.toNatClampNeg (Int32.ofNat i)))) a.2.2 then (a.2.1, a.2.2) else (Int32.ofNat i, F_lastStray_b (F_rowOther (uset a.1 57 mi.toNatClampNeg (Int32.ofNat i))))).1, (bif m_cmp .ge (F_lastStray_b (F_rowOther (uset a.1 57 mi.toNatClampNeg (Int32.ofNat i)))) a.2.2 then (a.2.1, a.2.2) else (Int32.ofNat i, F_lastStray_b (F_rowOther (uset a.1 57 mi.toNatClampNeg (Int32.ofNat i))))).2) := rfl
          rw [eB]
          generalize F_rowOther (uset a.1 57 mi.toNatClampNeg (Int32.ofNat i)) = z at *
          refine ⟨⟨_, r2⟩, ?_⟩
          have e5 : F_lastStray_b z = sV s mi.toNatClampNeg i := ls_b r1
          rw [e5]
          unfold stC
          generalize sV s mi.toNatClampNeg i = y
          cases m_cmp .ge y a.2.2 <;> rfl
      obtain ⟨⟨x, o⟩, e⟩ := A 3 (Nat.le_refl _)
      generalize itr (B_csteer_21 mi) 0 3 (F_take s, (-1), 20) = a at *
      obtain ⟨c, p⟩ := a
      dsimp only at o e ⊢
      obtain ⟨g, eJ⟩ := KG.sd h.1 o.2.2.2.2.2
      have fo := o.2.2.2.2.2
      have cell : ∀ b, b = 11 ∨ b = 12 ∨ b = 13 ∨ b = 14 → c b = s b := fun b hb => funext (fun j => by rcases hb with rfl | rfl | rfl | rfl <;> exact fo _ j rfl)
      have eSV : sV c mi.toNatClampNeg = sV s mi.toNatClampNeg := by
        funext v
        unfold sV sJ
        rw [eJ, cell 11 (by decide), cell 12 (by decide), cell 13 (by decide), cell 14 (by decide)]
      rw [eM, isM_e, q, lT, kF, is2_e, q2, lT, kF]
      have B : ∀ i, i ≤ 3 → (∃ x, MtC c (itr (B_steerOf_8 mi) 0 i (F_asTold c, (-1), 0)).1 (c 11) (c 12) (c 13) (updN (c 14) mi.toNatClampNeg x) 0) ∧ (itr (B_steerOf_8 mi) 0 i (F_asTold c, (-1), 0)).2 = itr (stM s mi.toNatClampNeg) 0 i (-1, 0) := by
        intro i
        induction i with
        | zero => exact fun _ => ⟨⟨c 14 mi.toNatClampNeg, by rw [updS]; exact mtTold g.1.1 g.2.1⟩, rfl⟩
        | succ i ih =>
          intro hi
          obtain ⟨⟨x, o⟩, e⟩ := ih (by omega)
          rw [itr_0, itr_0, ← e]
          generalize itr (B_steerOf_8 mi) 0 i (F_asTold c, (-1), 0) = a at *
          have o2 := o.wru mi.toNatClampNeg (Int32.ofNat i)
          rw [upd2] at o2
          have ov : ovJ (tJ c (c 11) (c 12) (c 13) (updN (c 14) mi.toNatClampNeg (Int32.ofNat i)) 255) := ovT (by rw [fo 10 0 rfl]; exact h8) (fun k hk => by rw [fo 10 0 rfl] at hk; rw [cell 12 (by decide)]; exact hpw k hk) (fun t ht => by rw [cell 13 (by decide)]; exact hrt t ht)
          obtain ⟨r1, r2⟩ := runT g.2.2.1 (by rw [fo 10 0 rfl]; exact h8) o2 bit0_ ov
          have eB : B_steerOf_8 mi i a = (F_runs (uset a.1 134 mi.toNatClampNeg (Int32.ofNat i)), (bif m_cmp .eq (bif m_cmp .eq a.2.1 (-1) then (1 : Int32) else (bif m_cmp .ge (F_strayNow (F_runs (uset a.1 134 mi.toNatClampNeg (Int32.ofNat i)))) a.2.2 then (0 : Int32) else (1 : Int32))) 0 then a.2.1 else Int32.ofNat i), (bif m_cmp .eq (bif m_cmp .eq a.2.1 (-1) then (1 : Int32) else (bif m_cmp .ge (F_strayNow (F_runs (uset a.1 134 mi.toNatClampNeg (Int32.ofNat i)))) a.2.2 then (0 : Int32) else (1 : Int32))) 0 then a.2.2 else F_strayNow (F_runs (uset a.1 134 mi.toNatClampNeg (Int32.ofNat i))))) := rfl
          rw [eB]
          generalize F_runs (uset a.1 134 mi.toNatClampNeg (Int32.ofNat i)) = z at *
          refine ⟨⟨_, r2⟩, ?_⟩
          have eN : F_strayNow z = sV s mi.toNatClampNeg i := by
            have e0 : F_strayNow z = offP (z 123 20) := rfl
            rw [e0, r1.2.1, ← eSV]
            rfl
          rw [eN]
          unfold stM
          generalize sV s mi.toNatClampNeg i = y
          cases m_cmp .eq (bif m_cmp .eq a.2.1 (-1) then (1 : Int32) else (bif m_cmp .ge y a.2.2 then (0 : Int32) else (1 : Int32))) 0 <;> rfl
      obtain ⟨-, e2⟩ := B 3 (Nat.le_refl _)
      generalize itr (B_steerOf_8 mi) 0 3 (F_asTold c, (-1), 0) = b at *
      have e3 := (stE s mi.toNatClampNeg 2 (by decide)).1
      dsimp only
      rw [e2, ← e3, ← e]
