/-! the answers of the calls in a digest are the same, whenever they are asked there -/
def gdC (b s : SG) : Prop := KF s ∧ Ag DG b s ∧ eqR rgM b s
def gdM (b s : SG) : Prop := KF s ∧ Ag DG b s
def VC (b : SG) (M : MM) (as : List Value) (v : Value) : Prop := ∀ s, gdC b s → UP M 0 (m_ent (mx M) (.ref 0 :: as)) [] s (fun r s1 => r = some v ∧ gdC b s1)
def VM (b : SG) (M : MM) (as : List Value) (v : Value) : Prop := ∀ s, gdM b s → UP M 0 (m_ent (mx M) (.ref 123 :: as)) [] s (fun r s1 => r = some v ∧ gdM b s1)
theorem Ag.sy {D : LW} {s s1 : SG} (a : Ag D s s1) : Ag D s1 s := fun x j h => (a x j h).symm
def mxS (b y : SG) : SG := fun a j => if a < 123 then b a j else y a j
theorem mx_c (b y : SG) : eqR rgC b (mxS b y) := fun a j h => by
  unfold mxS
  rw [if_pos (rgC_iff.mp h)]
theorem mx_m (b y : SG) : eqR rgM y (mxS b y) := fun a j h => by
  unfold mxS
  rw [if_neg (by have := rgM_iff.mp h; omega)]
theorem mx_k {b y : SG} (hb : KF b) (a : Ag DG b y) : KF (mxS b y) ∧ Ag DG b (mxS b y) := by
  have a2 : Ag DG b (mxS b y) := fun x j h => by
    unfold mxS
    by_cases e : x < 123
    · rw [if_pos e]
    · rw [if_neg e]
      exact a x j h
  refine ⟨⟨hb.1.ag a2, hb.2.ag (fun x j h => ?_)⟩, a2⟩
  unfold mxS
  rw [if_pos (inW_lt rfl h)]
theorem UP.and {M : MM} {i : Nat} {L : ML} {st : List Value} {s : SG} {P Q : Option Value → SG → Prop} (a : UP M i L st s P) (b : UP M i L st s Q) : UP M i L st s (fun r s1 => P r s1 ∧ Q r s1) := fun n q h => ⟨a n q h, b n q h⟩
theorem v_inj {x y : Int32} (h : some (Value.int x) = some (Value.int y)) : x = y := Value.int.inj (Option.some.inj h)
theorem val {h : MH} (hJ : JK h) {y1 y2 y3 : Nat} {M1 M2 M3 : MM} {as : List Value} {c m : SG → Int32 × SG} {Wc Wm : LW} (p : PairOK JK TE y1 y2 as h) (e1 : m_tab[y1]? = some M1) (e2 : m_tab[y2]? = some M2) (e3 : m_tab[y3]? = some M3) (m1 : y1 ∈ msU) (m2 : y2 ∈ msU) (m3 : y3 ∈ msU) (ha : ∀ R, rgS R as) (u1 : ∀ s, UP M1 0 (m_ent (mx M1) (.ref 0 :: as)) [] s (Qb (c s))) (u2 : ∀ s, UP M2 0 (m_ent (mx M2) (.ref 123 :: as)) [] s (Qb (m s))) (u3 : ∀ s, UP M3 0 (m_ent (mx M3) (.ref 123 :: as)) [] s (Qb (m s))) (q : ∀ s, KF s → QK (c s) m) (fc : ∀ s, Fr Wc s (c s).2) (fm : ∀ s, Fr Wm s (m s).2) (w1 : djW Wc DG = true) (w2 : Wc.all (fun w => Nat.blt w.2.1 123) = true) (w3 : djW Wm DF = true) : VC (cI h) M1 as (.int (c (cI h)).1) ∧ VM (cI h) M3 as (.int (c (cI h)).1) := by
  obtain ⟨N1, N2, r, h1, r2, h2, q1, q2, -, -, -, -, ⟨n1, rn1⟩, ⟨n2, rn2⟩, ⟨v, rfl, rfl⟩, -⟩ := p
  rw [e1] at q1
  cases q1
  rw [e2] at q2
  cases q2
  have gU := hu_of hJ.1.1 hJ.1.2.1
  obtain ⟨k1, g1⟩ := usim n1 y1 _ 0 _ _ [] h _ h1 m1 e1 gU (lqL.rf _) rn1
  have z1 := u1 (cI h) n1 _ k1
  obtain ⟨k2, -⟩ := usim n2 y2 _ 0 _ _ [] h1 _ h2 m2 e2 g1 (lqL.rf _) rn2
  have A : ∀ x, eqR rgM (cI h) x → (m x).1 = v := by
    intro x hx
    have hx0 : eqR rgM (cI h) (cI h1) := by
      have z2 : cI h1 = (c (cI h)).2 := z1.2
      rw [z2]
      exact (fc _).mo w2
    obtain ⟨t1, e, -, -⟩ := ucongM m2 e2 (rgL.ent (rgS.cn rfl (ha _)) _) rgS.nil (hx0.sy.tr hx) k2
    exact (v_inj (u2 x n2 _ e).1).symm
  have kc : ∀ s, KF s → KF (c s).2 := fun s hs => (q s hs).1.ag ((fm _).ag DF w3).sy
  rw [show (c (cI h)).1 = v from (v_inj z1.1).symm]
  refine ⟨fun s g => ?_, fun y g => ?_⟩
  · obtain ⟨g1, g2, g3⟩ := g
    refine (u1 s).mono (fun r s1 z => ?_)
    have hm := (fc s).mo w2
    refine ⟨?_, ?_⟩
    · rw [z.1, (q s g1).2, A _ (g3.tr hm)]
    · rw [z.2]
      exact ⟨kc s g1, g2.tr ((fc s).ag DG w1), g3.tr hm⟩
  · obtain ⟨g1, g2⟩ := g
    obtain ⟨kz, az⟩ := mx_k (b := cI h) hJ.2 g2
    have B : (c (mxS (cI h) y)).1 = v := by
      obtain ⟨t1, e, -, -, -⟩ := mloc n1 y1 _ 0 _ _ [] h _ h1 (mxS (cI h) y) m1 e1 gU (lqL.rf _) (rgL.ent (rgS.cn rfl (ha _)) _) rgS.nil (mx_c _ _) rn1
      exact (v_inj (u1 _ n1 _ e).1).symm
    intro n w hw
    obtain ⟨r, s1⟩ := w
    obtain ⟨t1, e, -, -⟩ := ucongM (t := (c (mxS (cI h) y)).2) m3 e3 (rgL.ent (rgS.cn rfl (ha _)) _) rgS.nil ((mx_m (cI h) y).tr ((fc _).mo w2)) hw
    have z : r = some (.int (m (c (mxS (cI h) y)).2).1) := (u3 _ n _ e).1
    have z2 : s1 = (m y).2 := (u3 y n _ hw).2
    show r = some (.int v) ∧ gdM (cI h) s1
    refine ⟨?_, ?_⟩
    · rw [z, ← (q _ kz).2, B]
    · rw [z2]
      exact ⟨g1.ag ((fm y).ag DF w3), g2.tr (((fm y).ag DF w3).sub rfl)⟩
theorem rgS.i1 (a : Int32) (R : Nat → Bool) : rgS R [.int a] := rgS.cn rfl rgS.nil
theorem rgS.i2 (a b : Int32) (R : Nat → Bool) : rgS R [.int a, .int b] := rgS.cn rfl (rgS.i1 b R)
theorem rgS.i3 (a b c : Int32) (R : Nat → Bool) : rgS R [.int a, .int b, .int c] := rgS.cn rfl (rgS.i2 b c R)
theorem rgS.i0 (R : Nat → Bool) : rgS R [] := rgS.nil
theorem val_count {h : MH} (hJ : JK h) (a : Int32) : VC (cI h) m_X6_count [.int a] (.int (F_ccount (cI h) a)) ∧ VM (cI h) m_X7_count [.int a] (.int (F_ccount (cI h) a)) := by
  exact val (c := fun s => (F_ccount s a, s)) (m := fun s => F_count s a) hJ (pk_count hJ a (pq_count (xs := [0, a, 0, 0, 0, 0]) (j := 0) hJ.1 J1.c J1.m J1_C J1_M)) (y3 := 181) rfl rfl rfl (by decide) (by decide) (by decide) (rgS.i1 a) (fun s => ux_ccount s a) (fun s => ux_count s a) (fun s => ux_count s a) (fun s hs => ⟨hs.ag ((fr_count s a).ag DF rfl), q_count hs a⟩) (fun s => Fr.rf [] s) (fun s => fr_count s a) rfl rfl rfl
theorem val_fault {h : MH} (hJ : JK h) (a : Int32) (g1 : bl a 3 = true) : VC (cI h) m_X6_fault [.int a] (.int (F_cfault (cI h) a)) ∧ VM (cI h) m_X7_faultOf [.int a] (.int (F_cfault (cI h) a)) := by
  have e : ∀ s, F_fault s a = F_faultOf s a := fun s => by
    unfold F_fault
    rw [isX_e, g1, lT, kF]
  exact val (c := fun s => (F_cfault s a, s)) (m := fun s => F_fault s a) hJ (pk_fault hJ a (pq_fault (xs := [0, a, 0, 0, 0, 0]) (j := 0) hJ.1 J1.c J1.m J1_C J1_M)) (y3 := 110) rfl rfl rfl (by decide) (by decide) (by decide) (rgS.i1 a) (fun s => ux_cfault s a) (fun s => ux_fault s a) (fun s => by rw [e]; exact ux_faultOf s a) (fun s hs => ⟨hs.ag ((fr_fault s a).ag DF rfl), q_fault hs.1.1.1 a⟩) (fun s => Fr.rf [] s) (fun s => fr_fault s a) rfl rfl rfl
theorem val_call {h : MH} (hJ : JK h) (a : Int32) (b : Int32) (g1 : bl a 24 = true) (g2 : bl b 2 = true) : VC (cI h) m_X6_call [.int a, .int b] (.int (F_ccall (cI h) a b)) ∧ VM (cI h) m_X7_callOf [.int a, .int b] (.int (F_ccall (cI h) a b)) := by
  have e : ∀ s, F_call s a b = F_callOf s a b := fun s => by
    unfold F_call
    rw [isM_e, g1, lT, kF, is2_e, g2, lT, kF]
  exact val (c := fun s => (F_ccall s a b, s)) (m := fun s => F_call s a b) hJ (pk_call hJ a b (pq_call (xs := [0, a, b, 0, 0, 0]) (j := 0) hJ.1 J1.c J1.m J1_C J1_M)) (y3 := 116) rfl rfl rfl (by decide) (by decide) (by decide) (rgS.i2 a b) (fun s => ux_ccall s a b) (fun s => ux_call s a b) (fun s => by rw [e]; exact ux_callOf s a b) (fun s hs => ⟨hs.ag ((fr_call s a b).ag DF rfl), q_call hs.1.1.1 hs.1.2.1 a b⟩) (fun s => Fr.rf [] s) (fun s => fr_call s a b) rfl rfl rfl
theorem val_at {h : MH} (hJ : JK h) (a : Int32) (b : Int32) (g1 : bl a 24 = true) (g2 : bl b 5 = true) : VC (cI h) m_X6_at [.int a, .int b] (.int ((F_cat (cI h) a b).1)) ∧ VM (cI h) m_X7_atOf [.int a, .int b] (.int ((F_cat (cI h) a b).1)) := by
  have e : ∀ s, F_at s a b = F_atOf s a b := fun s => by
    unfold F_at
    rw [isM_e, g1, lT, kF, in_e s b 4 5 rfl, g2, lT, kF]
  exact val (c := fun s => F_cat s a b) (m := fun s => F_at s a b) hJ (pk_at hJ a b (pq_at (xs := [0, a, b, 0, 0, 0]) (j := 0) hJ.1 J1.c J1.m J1_C J1_M)) (y3 := 129) rfl rfl rfl (by decide) (by decide) (by decide) (rgS.i2 a b) (fun s => ux_cat s a b) (fun s => ux_at s a b) (fun s => by rw [e]; exact ux_atOf s a b) (fun s hs => q_at hs a b) (fun s => fr_cat s a b) (fun s => fr_at s a b) rfl rfl rfl
theorem val_steer {h : MH} (hJ : JK h) (a : Int32) (b : Int32) (g1 : bl a 24 = true) (g2 : bl b 2 = true) : VC (cI h) m_X6_steer [.int a, .int b] (.int ((F_csteer (cI h) a b).1)) ∧ VM (cI h) m_X7_steerOf [.int a, .int b] (.int ((F_csteer (cI h) a b).1)) := by
  have e : ∀ s, F_steer s a b = F_steerOf s a b := fun s => by
    unfold F_steer
    rw [isM_e, g1, lT, kF, is2_e, g2, lT, kF]
  exact val (c := fun s => F_csteer s a b) (m := fun s => F_steer s a b) hJ (pe_steer hJ a b (pq_steer (xs := [0, a, b, 0, 0, 0]) (j := 0) hJ.1 J1.c J1.m J1_C J1_M)) (y3 := 148) rfl rfl rfl (by decide) (by decide) (by decide) (rgS.i2 a b) (fun s => ux_csteer s a b) (fun s => ux_steer s a b) (fun s => by rw [e]; exact ux_steerOf s a b) (fun s hs => q_steer hs a b) (fun s => fr_csteerN s a b) (fun s => fr_steer s a b) rfl rfl rfl
theorem val_stroke {h : MH} (hJ : JK h) (a : Int32) (b : Int32) (g1 : bl a 24 = true) (g2 : bl b 2 = true) : VC (cI h) m_X6_stroke [.int a, .int b] (.int ((F_cstroke (cI h) a b).1)) ∧ VM (cI h) m_X7_strokeOf [.int a, .int b] (.int ((F_cstroke (cI h) a b).1)) := by
  have e : ∀ s, F_stroke s a b = F_strokeOf s a b := fun s => by
    unfold F_stroke
    rw [isM_e, g1, lT, kF, is2_e, g2, lT, kF]
  exact val (c := fun s => F_cstroke s a b) (m := fun s => F_stroke s a b) hJ (pe_stroke hJ a b (pq_stroke (xs := [0, a, b, 0, 0, 0]) (j := 0) hJ.1 J1.c J1.m J1_C J1_M)) (y3 := 150) rfl rfl rfl (by decide) (by decide) (by decide) (rgS.i2 a b) (fun s => ux_cstroke s a b) (fun s => ux_stroke s a b) (fun s => by rw [e]; exact ux_strokeOf s a b) (fun s hs => q_stroke hs a b) (fun s => fr_cstrokeN s a b) (fun s => fr_stroke s a b) rfl rfl rfl
theorem val_there {h : MH} (hJ : JK h) : VC (cI h) m_X6_there [] (.int ((F_cthere (cI h)).1)) ∧ VM (cI h) m_X7_thereOf [] (.int ((F_cthere (cI h)).1)) := by
  exact val (c := fun s => F_cthere s) (m := fun s => F_there s) hJ (pk_there hJ (pq_there (xs := [0, 0, 0, 0, 0, 0]) (j := 0) hJ.1 J1.c J1.m J1_C J1_M)) (y3 := 135) rfl rfl rfl (by decide) (by decide) (by decide) (rgS.i0) (fun s => ux_cthere s) (fun s => ux_there s) (fun s => ux_thereOf s) (fun s hs => q_there hs) (fun s => fr_cthere s) (fun s => fr_there s) rfl rfl rfl
theorem val_grounded {h : MH} (hJ : JK h) (a : Int32) (g1 : bl a 2 = true) : VC (cI h) m_X6_grounded [.int a] (.int ((F_cgrounded (cI h) a).1)) ∧ VM (cI h) m_X7_groundedOf [.int a] (.int ((F_cgrounded (cI h) a).1)) := by
  have e : ∀ s, F_grounded s a = F_groundedOf s a := fun s => by
    unfold F_grounded
    rw [is2_e, g1, lT, kF]
  exact val (c := fun s => F_cgrounded s a) (m := fun s => F_grounded s a) hJ (pk_grounded hJ a (pq_grounded (xs := [0, a, 0, 0, 0, 0]) (j := 0) hJ.1 J1.c J1.m J1_C J1_M)) (y3 := 137) rfl rfl rfl (by decide) (by decide) (by decide) (rgS.i1 a) (fun s => ux_cgrounded s a) (fun s => ux_grounded s a) (fun s => by rw [e]; exact ux_groundedOf s a) (fun s hs => q_grounded hs a) (fun s => fr_cgrounded s a) (fun s => fr_grounded s a) rfl rfl rfl
theorem val_stray {h : MH} (hJ : JK h) (a : Int32) (g1 : bl a 2 = true) : VC (cI h) m_X6_stray [.int a] (.int ((F_cstray (cI h) a).1)) ∧ VM (cI h) m_X7_strayOf [.int a] (.int ((F_cstray (cI h) a).1)) := by
  have e : ∀ s, F_stray s a = F_strayOf s a := fun s => by
    unfold F_stray
    rw [is2_e, g1, lT, kF]
  exact val (c := fun s => F_cstray s a) (m := fun s => F_stray s a) hJ (pk_stray hJ a (pq_stray (xs := [0, a, 0, 0, 0, 0]) (j := 0) hJ.1 J1.c J1.m J1_C J1_M)) (y3 := 140) rfl rfl rfl (by decide) (by decide) (by decide) (rgS.i1 a) (fun s => ux_cstray s a) (fun s => ux_stray s a) (fun s => by rw [e]; exact ux_strayOf s a) (fun s hs => q_stray hs a) (fun s => fr_cstray s a) (fun s => fr_stray s a) rfl rfl rfl
theorem val_idle {h : MH} (hJ : JK h) : VC (cI h) m_X6_idle [] (.int ((F_cidle (cI h)).1)) ∧ VM (cI h) m_X7_idleOf [] (.int ((F_cidle (cI h)).1)) := by
  exact val (c := fun s => F_cidle s) (m := fun s => F_idle s) hJ (pk_idle hJ (pq_idle (xs := [0, 0, 0, 0, 0, 0]) (j := 0) hJ.1 J1.c J1.m J1_C J1_M)) (y3 := 144) rfl rfl rfl (by decide) (by decide) (by decide) (rgS.i0) (fun s => ux_cidle s) (fun s => ux_idle s) (fun s => ux_idleOf s) (fun s hs => q_idle hs) (fun s => fr_cidle s) (fun s => fr_idle s) rfl rfl rfl
theorem val_swap {h : MH} (hJ : JK h) (a : Int32) (g1 : bl a 3 = true) : VC (cI h) m_X6_swap [.int a] (.int ((F_cswap (cI h) a).1)) ∧ VM (cI h) m_X7_swapOf [.int a] (.int ((F_cswap (cI h) a).1)) := by
  have e : ∀ s, F_swap s a = F_swapOf s a := fun s => by
    unfold F_swap
    rw [is3_e, g1, lT, kF]
  exact val (c := fun s => F_cswap s a) (m := fun s => F_swap s a) hJ (pe_swap hJ a (pq_swap (xs := [0, a, 0, 0, 0, 0]) (j := 0) hJ.1 J1.c J1.m J1_C J1_M)) (y3 := 146) rfl rfl rfl (by decide) (by decide) (by decide) (rgS.i1 a) (fun s => ux_cswap s a) (fun s => ux_swap s a) (fun s => by rw [e]; exact ux_swapOf s a) (fun s hs => q_swap hs a) (fun s => fr_cswapN s a) (fun s => fr_swap s a) rfl rfl rfl
theorem val_never {h : MH} (hJ : JK h) : VC (cI h) m_X6_never [] (.int ((F_cnever (cI h)).1)) ∧ VM (cI h) m_X7_neverNow [] (.int ((F_cnever (cI h)).1)) := by
  exact val (c := fun s => F_cnever s) (m := fun s => F_never s) hJ (pe_never hJ (pq_never (xs := [0, 0, 0, 0, 0, 0]) (j := 0) hJ.1 J1.c J1.m J1_C J1_M)) (y3 := 159) rfl rfl rfl (by decide) (by decide) (by decide) (rgS.i0) (fun s => ux_cnever s) (fun s => ux_never s) (fun s => ux_neverNow s) (fun s hs => q_never hs) (fun s => fr_cneverN s) (fun s => fr_never s) rfl rfl rfl
theorem val_years {h : MH} (hJ : JK h) (a : Int32) (b : Int32) (c : Int32) (g1 : bl b 25 = true) (g2 : bl c 2 = true) : VC (cI h) m_X6_years [.int a, .int b, .int c] (.int ((F_cyears (cI h) a b c).1)) ∧ VM (cI h) m_X7_yearsOf [.int a, .int b, .int c] (.int ((F_cyears (cI h) a b c).1)) := by
  have e : ∀ s, F_years s a b c = F_yearsOf s a b c := fun s => by
    unfold F_years
    rw [in_e s b 24 25 rfl, g1, lT, kF, is2_e, g2, lT, kF]
  exact val (c := fun s => F_cyears s a b c) (m := fun s => F_years s a b c) hJ (pe_years hJ a b c (pq_years (xs := [0, a, b, c, 0, 0]) (j := 0) hJ.1 J1.c J1.m J1_C J1_M)) (y3 := 168) rfl rfl rfl (by decide) (by decide) (by decide) (rgS.i3 a b c) (fun s => ux_cyears s a b c) (fun s => ux_years s a b c) (fun s => by rw [e]; exact ux_yearsOf s a b c) (fun s hs => q_years hs a b c) (fun s => fr_cyearsN s a b c) (fun s => fr_years s a b c) rfl rfl rfl
