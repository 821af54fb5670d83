/-! every pair of calls under JK (printed by wip/u/mk_pk.py) -/
theorem kbX {x y : Int32 × SG} {b : Bool} (h1 : KX x.2) (h2 : KX y.2) : KX (bif b then x else y).2 := by
  cases b
  · exact h2
  · exact h1
theorem bad_type {s : SG} {t b : Int32} (hb : bl t 3 = false) : F_type s t b = ((-2), s) := by
  dsimp only [F_type]
  rw [isX_e, hb, lF, kT]
theorem bad_wipe {s : SG} {t : Int32} (hb : bl t 3 = false) : F_wipe s t = ((-2), s) := by
  dsimp only [F_wipe]
  rw [isX_n, hb, kF]
theorem bad_undo {s : SG} {t : Int32} (hb : bl t 3 = false) : F_undo s t = ((-2), s) := by
  dsimp only [F_undo]
  rw [isX_n, hb, kF]
theorem kx_type_0 {s : SG} (h : KX s) (b : Int32) : KX (F_ctype_0 s b).2 := by
  dsimp only [F_ctype_0]
  exact kbX h (kbX (kbX (KX.mark _) h) h)
theorem kx_type_1 {s : SG} (h : KX s) (b : Int32) : KX (F_ctype_1 s b).2 := by
  dsimp only [F_ctype_1]
  exact kbX h (kbX (kbX (KX.mark _) h) h)
theorem kx_type_2 {s : SG} (h : KX s) (b : Int32) : KX (F_ctype_2 s b).2 := by
  dsimp only [F_ctype_2]
  exact kbX h (kbX (kbX (KX.mark _) h) h)
theorem k_type {s : SG} (h : KF s) (t : Int32) (b : Int32) : KF (F_type (F_ctype s t b).2 t b).2 := by
  unfold F_ctype
  by_cases e0 : t = 0
  · rw [if_pos e0, e0]
    have K := kty_0 b h.1.1 h.1.2.1
    have f1 := fr_ctype_0 s b
    have x := kx_type_0 h.2 b
    generalize (F_ctype_0 s b).2 = c at *
    have f2 := fr_type c 0 b
    exact ⟨⟨K.1, K.2, h.1.2.2.1.ag ((f1.ag DE rfl).tr (f2.ag DE rfl)), h.1.2.2.2.1.ag ((f1.ag DS rfl).tr (f2.ag DS rfl)), h.1.2.2.2.2.ag ((f1.ag DH rfl).tr (f2.ag DH rfl))⟩, x.ag (f2.ag DX rfl)⟩
  by_cases e1 : t = 1
  · rw [if_neg e0, if_pos e1, e1]
    have K := kty_1 b h.1.1 h.1.2.1
    have f1 := fr_ctype_1 s b
    have x := kx_type_1 h.2 b
    generalize (F_ctype_1 s b).2 = c at *
    have f2 := fr_type c 1 b
    exact ⟨⟨K.1, K.2, h.1.2.2.1.ag ((f1.ag DE rfl).tr (f2.ag DE rfl)), h.1.2.2.2.1.ag ((f1.ag DS rfl).tr (f2.ag DS rfl)), h.1.2.2.2.2.ag ((f1.ag DH rfl).tr (f2.ag DH rfl))⟩, x.ag (f2.ag DX rfl)⟩
  by_cases e2 : t = 2
  · rw [if_neg e0, if_neg e1, if_pos e2, e2]
    have K := kty_2 b h.1.1 h.1.2.1
    have f1 := fr_ctype_2 s b
    have x := kx_type_2 h.2 b
    generalize (F_ctype_2 s b).2 = c at *
    have f2 := fr_type c 2 b
    exact ⟨⟨K.1, K.2, h.1.2.2.1.ag ((f1.ag DE rfl).tr (f2.ag DE rfl)), h.1.2.2.2.1.ag ((f1.ag DS rfl).tr (f2.ag DS rfl)), h.1.2.2.2.2.ag ((f1.ag DH rfl).tr (f2.ag DH rfl))⟩, x.ag (f2.ag DX rfl)⟩
  rw [if_neg e0, if_neg e1, if_neg e2]
  have hb : bl t 3 = false := by
    cases q : bl t 3 with
    | false => rfl
    | true =>
      rcases bl_3.mp q with w | w | w
      · exact absurd w e0
      · exact absurd w e1
      · exact absurd w e2
  dsimp only
  rw [bad_type hb]
  exact h
theorem kx_wipe_0 {s : SG} (h : KX s) : KX (F_cwipe_0 s).2 := by
  dsimp only [F_cwipe_0]
  exact kbX (KX.mark _) h
theorem kx_wipe_1 {s : SG} (h : KX s) : KX (F_cwipe_1 s).2 := by
  dsimp only [F_cwipe_1]
  exact kbX (KX.mark _) h
theorem kx_wipe_2 {s : SG} (h : KX s) : KX (F_cwipe_2 s).2 := by
  dsimp only [F_cwipe_2]
  exact kbX (KX.mark _) h
theorem k_wipe {s : SG} (h : KF s) (t : Int32) : KF (F_wipe (F_cwipe s t).2 t).2 := by
  unfold F_cwipe
  by_cases e0 : t = 0
  · rw [if_pos e0, e0]
    have K := kwi_0 h.1.1 h.1.2.1
    have f1 := fr_cwipe_0 s
    have x := kx_wipe_0 h.2
    generalize (F_cwipe_0 s).2 = c at *
    have f2 := fr_wipe c 0
    exact ⟨⟨K.1, K.2, h.1.2.2.1.ag ((f1.ag DE rfl).tr (f2.ag DE rfl)), h.1.2.2.2.1.ag ((f1.ag DS rfl).tr (f2.ag DS rfl)), h.1.2.2.2.2.ag ((f1.ag DH rfl).tr (f2.ag DH rfl))⟩, x.ag (f2.ag DX rfl)⟩
  by_cases e1 : t = 1
  · rw [if_neg e0, if_pos e1, e1]
    have K := kwi_1 h.1.1 h.1.2.1
    have f1 := fr_cwipe_1 s
    have x := kx_wipe_1 h.2
    generalize (F_cwipe_1 s).2 = c at *
    have f2 := fr_wipe c 1
    exact ⟨⟨K.1, K.2, h.1.2.2.1.ag ((f1.ag DE rfl).tr (f2.ag DE rfl)), h.1.2.2.2.1.ag ((f1.ag DS rfl).tr (f2.ag DS rfl)), h.1.2.2.2.2.ag ((f1.ag DH rfl).tr (f2.ag DH rfl))⟩, x.ag (f2.ag DX rfl)⟩
  by_cases e2 : t = 2
  · rw [if_neg e0, if_neg e1, if_pos e2, e2]
    have K := kwi_2 h.1.1 h.1.2.1
    have f1 := fr_cwipe_2 s
    have x := kx_wipe_2 h.2
    generalize (F_cwipe_2 s).2 = c at *
    have f2 := fr_wipe c 2
    exact ⟨⟨K.1, K.2, h.1.2.2.1.ag ((f1.ag DE rfl).tr (f2.ag DE rfl)), h.1.2.2.2.1.ag ((f1.ag DS rfl).tr (f2.ag DS rfl)), h.1.2.2.2.2.ag ((f1.ag DH rfl).tr (f2.ag DH rfl))⟩, x.ag (f2.ag DX rfl)⟩
  rw [if_neg e0, if_neg e1, if_neg e2]
  have hb : bl t 3 = false := by
    cases q : bl t 3 with
    | false => rfl
    | true =>
      rcases bl_3.mp q with w | w | w
      · exact absurd w e0
      · exact absurd w e1
      · exact absurd w e2
  dsimp only
  rw [bad_wipe hb]
  exact h
theorem kx_undo_0 {s : SG} (h : KX s) : KX (F_cundo_0 s).2 := by
  dsimp only [F_cundo_0]
  exact kbX (kbX (KX.mark _) h) h
theorem kx_undo_1 {s : SG} (h : KX s) : KX (F_cundo_1 s).2 := by
  dsimp only [F_cundo_1]
  exact kbX (kbX (KX.mark _) h) h
theorem kx_undo_2 {s : SG} (h : KX s) : KX (F_cundo_2 s).2 := by
  dsimp only [F_cundo_2]
  exact kbX (kbX (KX.mark _) h) h
theorem k_undo {s : SG} (h : KF s) (t : Int32) : KF (F_undo (F_cundo s t).2 t).2 := by
  unfold F_cundo
  by_cases e0 : t = 0
  · rw [if_pos e0, e0]
    have K := kun_0 h.1.1 h.1.2.1
    have f1 := fr_cundo_0 s
    have x := kx_undo_0 h.2
    generalize (F_cundo_0 s).2 = c at *
    have f2 := fr_undo c 0
    exact ⟨⟨K.1, K.2, h.1.2.2.1.ag ((f1.ag DE rfl).tr (f2.ag DE rfl)), h.1.2.2.2.1.ag ((f1.ag DS rfl).tr (f2.ag DS rfl)), h.1.2.2.2.2.ag ((f1.ag DH rfl).tr (f2.ag DH rfl))⟩, x.ag (f2.ag DX rfl)⟩
  by_cases e1 : t = 1
  · rw [if_neg e0, if_pos e1, e1]
    have K := kun_1 h.1.1 h.1.2.1
    have f1 := fr_cundo_1 s
    have x := kx_undo_1 h.2
    generalize (F_cundo_1 s).2 = c at *
    have f2 := fr_undo c 1
    exact ⟨⟨K.1, K.2, h.1.2.2.1.ag ((f1.ag DE rfl).tr (f2.ag DE rfl)), h.1.2.2.2.1.ag ((f1.ag DS rfl).tr (f2.ag DS rfl)), h.1.2.2.2.2.ag ((f1.ag DH rfl).tr (f2.ag DH rfl))⟩, x.ag (f2.ag DX rfl)⟩
  by_cases e2 : t = 2
  · rw [if_neg e0, if_neg e1, if_pos e2, e2]
    have K := kun_2 h.1.1 h.1.2.1
    have f1 := fr_cundo_2 s
    have x := kx_undo_2 h.2
    generalize (F_cundo_2 s).2 = c at *
    have f2 := fr_undo c 2
    exact ⟨⟨K.1, K.2, h.1.2.2.1.ag ((f1.ag DE rfl).tr (f2.ag DE rfl)), h.1.2.2.2.1.ag ((f1.ag DS rfl).tr (f2.ag DS rfl)), h.1.2.2.2.2.ag ((f1.ag DH rfl).tr (f2.ag DH rfl))⟩, x.ag (f2.ag DX rfl)⟩
  rw [if_neg e0, if_neg e1, if_neg e2]
  have hb : bl t 3 = false := by
    cases q : bl t 3 with
    | false => rfl
    | true =>
      rcases bl_3.mp q with w | w | w
      · exact absurd w e0
      · exact absurd w e1
      · exact absurd w e2
  dsimp only
  rw [bad_undo hb]
  exact h
theorem pk_type {h : MH} (hJ : JK h) (a : Int32) (b : Int32) (p : PairOK J1 TE 31 101 [.int a, .int b] h) : PairOK JK TE 31 101 [.int a, .int b] h := up_k (M1 := m_X6_type) (M2 := m_X7_type) (c := F_ctype (cI h) a b) (m := fun y => F_type y a b) p hJ rfl rfl (by decide) (by decide) (ux_ctype _ a b) (ux_type _ a b) (k_type hJ.2 a b)
theorem pk_wipe {h : MH} (hJ : JK h) (a : Int32) (p : PairOK J1 TE 32 102 [.int a] h) : PairOK JK TE 32 102 [.int a] h := up_k (M1 := m_X6_wipe) (M2 := m_X7_wipe) (c := F_cwipe (cI h) a) (m := fun y => F_wipe y a) p hJ rfl rfl (by decide) (by decide) (ux_cwipe _ a) (ux_wipe _ a) (k_wipe hJ.2 a)
theorem pk_undo {h : MH} (hJ : JK h) (a : Int32) (p : PairOK J1 TE 33 103 [.int a] h) : PairOK JK TE 33 103 [.int a] h := up_k (M1 := m_X6_undo) (M2 := m_X7_undo) (c := F_cundo (cI h) a) (m := fun y => F_undo y a) p hJ rfl rfl (by decide) (by decide) (ux_cundo _ a) (ux_undo _ a) (k_undo hJ.2 a)
theorem pk_fault {h : MH} (hJ : JK h) (a : Int32) (p : PairOK J1 TA 34 112 [.int a] h) : PairOK JK TE 34 112 [.int a] h := up_q (M1 := m_X6_fault) (M2 := m_X7_fault) (c := (F_cfault (cI h) a, cI h)) (m := fun y => F_fault y a) p hJ rfl rfl (by decide) (by decide) (ux_cfault _ a) (ux_fault _ a) (⟨hJ.2.ag ((fr_fault _ a).ag DF rfl), q_fault hJ.2.1.1.1 a⟩)
theorem pk_rower {h : MH} (hJ : JK h) (a : Int32) (b : Int32) (p : PairOK J1 TA 35 115 [.int a, .int b] h) : PairOK JK TE 35 115 [.int a, .int b] h := up_q (M1 := m_X6_rower) (M2 := m_X7_rower) (c := (F_crower (cI h) a b, cI h)) (m := fun y => F_rower y a b) p hJ rfl rfl (by decide) (by decide) (ux_crower _ a b) (ux_rower _ a b) (⟨hJ.2.ag ((fr_rower _ a b).ag DF rfl), q_rower hJ.2.1.1.1 hJ.2.1.2.1 a b⟩)
theorem pk_call {h : MH} (hJ : JK h) (a : Int32) (b : Int32) (p : PairOK J1 TA 36 117 [.int a, .int b] h) : PairOK JK TE 36 117 [.int a, .int b] h := up_q (M1 := m_X6_call) (M2 := m_X7_call) (c := (F_ccall (cI h) a b, cI h)) (m := fun y => F_call y a b) p hJ rfl rfl (by decide) (by decide) (ux_ccall _ a b) (ux_call _ a b) (⟨hJ.2.ag ((fr_call _ a b).ag DF rfl), q_call hJ.2.1.1.1 hJ.2.1.2.1 a b⟩)
theorem pk_count {h : MH} (hJ : JK h) (a : Int32) (p : PairOK J1 TA 76 181 [.int a] h) : PairOK JK TE 76 181 [.int a] h := up_q (M1 := m_X6_count) (M2 := m_X7_count) (c := (F_ccount (cI h) a, cI h)) (m := fun y => F_count y a) p hJ rfl rfl (by decide) (by decide) (ux_ccount _ a) (ux_count _ a) (⟨hJ.2.ag ((fr_count _ a).ag DF rfl), q_count hJ.2 a⟩)
theorem pk_river {h : MH} (hJ : JK h) (a : Int32) (b : Int32) (p : PairOK J1 TA 37 118 [.int a, .int b] h) : PairOK JK TA 37 118 [.int a, .int b] h := up_k (M1 := m_X6_river) (M2 := m_X7_river) (c := F_criver (cI h) a b) (m := fun y => F_river y a b) p hJ rfl rfl (by decide) (by decide) (ux_criver _ a b) (ux_river _ a b) (k_river hJ.2 a b)
theorem pk_event {h : MH} (hJ : JK h) (a : Int32) (b : Int32) (c : Int32) (p : PairOK J1 TA 40 119 [.int a, .int b, .int c] h) : PairOK JK TE 40 119 [.int a, .int b, .int c] h := up_q (M1 := m_X6_event) (M2 := m_X7_event) (c := F_cevent (cI h) a b c) (m := fun y => F_event y a b c) p hJ rfl rfl (by decide) (by decide) (ux_cevent _ a b c) (ux_event _ a b c) (q_event hJ.2 a b c)
theorem pk_back {h : MH} (hJ : JK h) (p : PairOK J1 TA 41 120 [] h) : PairOK JK TE 41 120 [] h := up_q (M1 := m_X6_back) (M2 := m_X7_back) (c := F_cback (cI h)) (m := fun y => F_back y) p hJ rfl rfl (by decide) (by decide) (ux_cback _) (ux_back _) (q_back hJ.2)
theorem pk_at {h : MH} (hJ : JK h) (a : Int32) (b : Int32) (p : PairOK J1 TA 43 130 [.int a, .int b] h) : PairOK JK TE 43 130 [.int a, .int b] h := up_q (M1 := m_X6_at) (M2 := m_X7_at) (c := F_cat (cI h) a b) (m := fun y => F_at y a b) p hJ rfl rfl (by decide) (by decide) (ux_cat _ a b) (ux_at _ a b) (q_at hJ.2 a b)
theorem pk_pulls {h : MH} (hJ : JK h) (a : Int32) (b : Int32) (p : PairOK J1 TA 44 132 [.int a, .int b] h) : PairOK JK TE 44 132 [.int a, .int b] h := up_q (M1 := m_X6_pulls) (M2 := m_X7_pulls) (c := F_cpulls (cI h) a b) (m := fun y => F_pulls y a b) p hJ rfl rfl (by decide) (by decide) (ux_cpulls _ a b) (ux_pulls _ a b) (q_pulls hJ.2 a b)
theorem pk_done {h : MH} (hJ : JK h) (a : Int32) (b : Int32) (p : PairOK J1 TA 45 134 [.int a, .int b] h) : PairOK JK TE 45 134 [.int a, .int b] h := up_q (M1 := m_X6_done) (M2 := m_X7_done) (c := F_cdone (cI h) a b) (m := fun y => F_done y a b) p hJ rfl rfl (by decide) (by decide) (ux_cdone _ a b) (ux_done _ a b) (q_done hJ.2 a b)
theorem pk_there {h : MH} (hJ : JK h) (p : PairOK J1 TA 46 136 [] h) : PairOK JK TE 46 136 [] h := up_q (M1 := m_X6_there) (M2 := m_X7_there) (c := F_cthere (cI h)) (m := fun y => F_there y) p hJ rfl rfl (by decide) (by decide) (ux_cthere _) (ux_there _) (q_there hJ.2 )
theorem pk_grounded {h : MH} (hJ : JK h) (a : Int32) (p : PairOK J1 TA 47 138 [.int a] h) : PairOK JK TE 47 138 [.int a] h := up_q (M1 := m_X6_grounded) (M2 := m_X7_grounded) (c := F_cgrounded (cI h) a) (m := fun y => F_grounded y a) p hJ rfl rfl (by decide) (by decide) (ux_cgrounded _ a) (ux_grounded _ a) (q_grounded hJ.2 a)
theorem pk_stray {h : MH} (hJ : JK h) (a : Int32) (p : PairOK J1 TA 48 141 [.int a] h) : PairOK JK TE 48 141 [.int a] h := up_q (M1 := m_X6_stray) (M2 := m_X7_stray) (c := F_cstray (cI h) a) (m := fun y => F_stray y a) p hJ rfl rfl (by decide) (by decide) (ux_cstray _ a) (ux_stray _ a) (q_stray hJ.2 a)
theorem pk_idle {h : MH} (hJ : JK h) (p : PairOK J1 TA 50 145 [] h) : PairOK JK TE 50 145 [] h := up_q (M1 := m_X6_idle) (M2 := m_X7_idle) (c := F_cidle (cI h)) (m := fun y => F_idle y) p hJ rfl rfl (by decide) (by decide) (ux_cidle _) (ux_idle _) (q_idle hJ.2 )
theorem pk_best {h : MH} (hJ : JK h) (p : PairOK J1 TA 49 143 [] h) : PairOK JK TA 49 143 [] h := up_k (M1 := m_X6_best) (M2 := m_X7_best) (c := F_cbest (cI h)) (m := fun y => F_best y) p hJ rfl rfl (by decide) (by decide) (ux_cbest _) (ux_best _) (k_best hJ.2)
theorem pk_swap {h : MH} (hJ : JK h) (a : Int32) (p : PairOK J1 TA 51 147 [.int a] h) : PairOK JK TA 51 147 [.int a] h := up_k (M1 := m_X6_swap) (M2 := m_X7_swap) (c := F_cswap (cI h) a) (m := fun y => F_swap y a) p hJ rfl rfl (by decide) (by decide) (ux_cswap _ a) (ux_swap _ a) ((kf_swap hJ.2 a).ag ((fr_swap _ a).ag DF rfl))
theorem pk_steer {h : MH} (hJ : JK h) (a : Int32) (b : Int32) (p : PairOK J1 TA 53 149 [.int a, .int b] h) : PairOK JK TA 53 149 [.int a, .int b] h := up_k (M1 := m_X6_steer) (M2 := m_X7_steer) (c := F_csteer (cI h) a b) (m := fun y => F_steer y a b) p hJ rfl rfl (by decide) (by decide) (ux_csteer _ a b) (ux_steer _ a b) ((kf_steer hJ.2 a b).ag ((fr_steer _ a b).ag DF rfl))
theorem pk_stroke {h : MH} (hJ : JK h) (a : Int32) (b : Int32) (p : PairOK J1 TA 54 151 [.int a, .int b] h) : PairOK JK TA 54 151 [.int a, .int b] h := up_k (M1 := m_X6_stroke) (M2 := m_X7_stroke) (c := F_cstroke (cI h) a b) (m := fun y => F_stroke y a b) p hJ rfl rfl (by decide) (by decide) (ux_cstroke _ a b) (ux_stroke _ a b) ((kf_stroke hJ.2 a b).ag ((fr_stroke _ a b).ag DF rfl))
theorem pk_never {h : MH} (hJ : JK h) (p : PairOK J1 TA 60 160 [] h) : PairOK JK TA 60 160 [] h := up_k (M1 := m_X6_never) (M2 := m_X7_never) (c := F_cnever (cI h)) (m := fun y => F_never y) p hJ rfl rfl (by decide) (by decide) (ux_cnever _) (ux_never _) ((kf_never hJ.2 ).ag ((fr_never _ ).ag DF rfl))
theorem pk_was {h : MH} (hJ : JK h) (a : Int32) (b : Int32) (p : PairOK J1 TA 61 163 [.int a, .int b] h) : PairOK JK TA 61 163 [.int a, .int b] h := up_k (M1 := m_X6_was) (M2 := m_X7_was) (c := F_cwas (cI h) a b) (m := fun y => F_was y a b) p hJ rfl rfl (by decide) (by decide) (ux_cwas _ a b) (ux_was _ a b) ((kf_was hJ.2 a b).ag ((fr_was _ a b).ag DF rfl))
theorem pk_ask {h : MH} (hJ : JK h) (a : Int32) (p : PairOK J1 TA 64 165 [.int a] h) : PairOK JK TA 64 165 [.int a] h := up_k (M1 := m_X6_ask) (M2 := m_X7_ask) (c := F_cask (cI h) a) (m := fun y => F_ask y a) p hJ rfl rfl (by decide) (by decide) (ux_cask _ a) (ux_ask _ a) ((kf_ask hJ.2 a).ag ((fr_ask _ a).ag DF rfl))
theorem pk_years {h : MH} (hJ : JK h) (a : Int32) (b : Int32) (c : Int32) (p : PairOK J1 TA 69 169 [.int a, .int b, .int c] h) : PairOK JK TA 69 169 [.int a, .int b, .int c] h := up_k (M1 := m_X6_years) (M2 := m_X7_years) (c := F_cyears (cI h) a b c) (m := fun y => F_years y a b c) p hJ rfl rfl (by decide) (by decide) (ux_cyears _ a b c) (ux_years _ a b c) ((kf_years hJ.2 a b c).ag ((fr_years _ a b c).ag DF rfl))
theorem pk_seen {h : MH} (hJ : JK h) (a : Int32) (b : Int32) (p : PairOK J1 TA 58 156 [.int a, .int b] h) : PairOK JK TE 58 156 [.int a, .int b] h := up_q (M1 := m_X6_seen) (M2 := m_X7_seen) (c := F_cseen (cI h) a b) (m := fun y => F_seen y a b) p hJ rfl rfl (by decide) (by decide) (ux_cseen _ a b) (ux_seen _ a b) (q_seen hJ.2 a b)
theorem pk_forget {h : MH} (hJ : JK h) (p : PairOK J1 TA 59 157 [] h) : PairOK JK TE 59 157 [] h := up_q (M1 := m_X6_forget) (M2 := m_X7_forget) (c := F_cforget (cI h)) (m := fun y => F_forget y) p hJ rfl rfl (by decide) (by decide) (ux_cforget _) (ux_forget _) (q_forget hJ.2)
theorem pk_sheet {h : MH} (hJ : JK h) (a : Int32) (b : Int32) (c : Int32) (p : PairOK J1 TA 70 172 [.int a, .int b, .int c] h) : PairOK JK TE 70 172 [.int a, .int b, .int c] h := up_q (M1 := m_X6_sheet) (M2 := m_X7_sheet) (c := F_csheet (cI h) a b c) (m := fun y => F_sheet y a b c) p hJ rfl rfl (by decide) (by decide) (ux_csheet _ a b c) (ux_sheet _ a b c) (q_sheet hJ.2 a b c)
theorem pk_lose {h : MH} (hJ : JK h) (a : Int32) (p : PairOK J1 TA 71 173 [.int a] h) : PairOK JK TE 71 173 [.int a] h := up_q (M1 := m_X6_lose) (M2 := m_X7_lose) (c := F_close (cI h) a) (m := fun y => F_lose y a) p hJ rfl rfl (by decide) (by decide) (ux_close _ a) (ux_lose _ a) (q_lose hJ.2 a)
theorem pk_put {h : MH} (hJ : JK h) (a : Int32) (b : Int32) (c : Int32) (d : Int32) (p : PairOK J1 TA 72 176 [.int a, .int b, .int c, .int d] h) : PairOK JK TE 72 176 [.int a, .int b, .int c, .int d] h := up_q (M1 := m_X6_put) (M2 := m_X7_put) (c := F_cput (cI h) a b c d) (m := fun y => F_put y a b c d) p hJ rfl rfl (by decide) (by decide) (ux_cput _ a b c d) (ux_put _ a b c d) (q_put hJ.2 a b c d)
theorem pk_get {h : MH} (hJ : JK h) (a : Int32) (b : Int32) (c : Int32) (p : PairOK J1 TA 73 177 [.int a, .int b, .int c] h) : PairOK JK TE 73 177 [.int a, .int b, .int c] h := up_q (M1 := m_X6_get) (M2 := m_X7_get) (c := F_cget (cI h) a b c) (m := fun y => F_get y a b c) p hJ rfl rfl (by decide) (by decide) (ux_cget _ a b c) (ux_get _ a b c) (q_get hJ.2 a b c)
theorem pk_copy {h : MH} (hJ : JK h) (a : Int32) (b : Int32) (c : Int32) (d : Int32) (e : Int32) (p : PairOK J1 TA 74 178 [.int a, .int b, .int c, .int d, .int e] h) : PairOK JK TE 74 178 [.int a, .int b, .int c, .int d, .int e] h := up_q (M1 := m_X6_copy) (M2 := m_X7_copy) (c := F_ccopy (cI h) a b c d e) (m := fun y => F_copy y a b c d e) p hJ rfl rfl (by decide) (by decide) (ux_ccopy _ a b c d e) (ux_copy _ a b c d e) (q_copy hJ.2 a b c d e)
theorem pk_write {h : MH} (hJ : JK h) (a : Int32) (b : Int32) (p : PairOK J1 TA 75 179 [.int a, .int b] h) : PairOK JK TE 75 179 [.int a, .int b] h := up_q (M1 := m_X6_write) (M2 := m_X7_write) (c := F_cwrite (cI h) a b) (m := fun y => F_write y a b) p hJ rfl rfl (by decide) (by decide) (ux_cwrite _ a b) (ux_write _ a b) (q_write hJ.2 a b)
theorem rd_60 {s : SG} (h : KF s) : ∀ q, q < 4 → (s (115 + 2 * q) 3).toInt ≤ 60 := fun q hq => by
  obtain ⟨-, -, k3, k4, k5, -⟩ := h.1.2.2.2.2.1 q hq
  rw [k3]
  have k5 : (s 150 q).toInt.toNat ≤ 60 := k5
  omega
theorem rd_61 {s : SG} (h : KF s) (a : Int32) : bl a 4 = true → ((F_cread s a).2 150 a.toNatClampNeg).toInt ≤ 60 := fun hb => by
  have hq : a.toNatClampNeg < 4 := (bl_ofn hb).2
  obtain ⟨k1, -, k3, k4, k5, -⟩ := h.1.2.2.2.2.1 _ hq
  have k5 : (s 150 a.toNatClampNeg).toInt.toNat ≤ 60 := k5
  have e : (F_cread s a).2 150 a.toNatClampNeg = s 150 a.toNatClampNeg := by
    unfold F_cread
    rw [hb, kT]
    cases m_cmp .eq (s (115 + 2 * a.toNatClampNeg) 1) 0 with
    | false => rw [kF]; rfl
    | true =>
      rw [kT]
      have key : ∀ (n i : Nat) (s : SG) (b j : Nat), 123 < b → (rdC (115 + 2 * a.toNatClampNeg) n i s).2 b j = s b j := by
        intro n
        induction n with
        | zero => exact fun i s b j _ => rfl
        | succ n ih =>
          intro i s b j hbj
          have fe : (evR (115 + 2 * a.toNatClampNeg) i s).2 b j = s b j := (fr_cevent s _ _ _) b j (by
            cases w : inW W_cevent b j with
            | false => rfl
            | true =>
              have x := inW_sub (D1 := W_cevent) (D2 := [(0, 123, none)]) rfl w
              simp [inW] at x
              omega)
          rw [rdC_s]
          cases m_cmp .ge (Int32.ofNat (3 * i) + 2) (s (115 + 2 * a.toNatClampNeg) 3) with
          | true => rfl
          | false =>
            rw [kF]
            cases m_cmp .ge (evR (115 + 2 * a.toNatClampNeg) i s).1 0 with
            | true => rw [kT, ih (i + 1) _ b j hbj]; exact fe
            | false => rw [kF]; exact fe
      exact key 20 0 s 150 _ (by omega)
  rw [e]
  omega
theorem pk_read {h : MH} (hJ : JK h) (a : Int32) (p : PairOK J1 TA 42 121 [.int a] h) : PairOK JK TE 42 121 [.int a] h := up_q (M1 := m_X6_read) (M2 := m_X7_read) (c := F_cread (cI h) a) (m := fun y => F_read y a) p hJ rfl rfl (by decide) (by decide) (ux_cread _ a (rd_60 hJ.2)) (ux_read _ a (rd_61 hJ.2 a)) (q_read hJ.2 a)
theorem pk_spare {xs : List Int32} {j : Int32} {h : MH} (hJ : JK h) : PairOK JK TA 55 155 (argsOf xs j 1 1) h := up_i (M1 := m_X6_spare) (M2 := m_X7_spare) hJ rfl rfl (ent_this 0 xs j 1 1 _ (by decide)) (ent_this 123 xs j 1 1 _ (by decide)) (by decide) (SPi.ct p_cc62 rfl (gS_this 0 (gS_args xs j 1 1)) (gH.eq eq_HCr hJ.1.1) rfl) (KI_spare hJ.2 _) (fun h1 g1 => SPi.ct p_cm61 rfl (gS_this 123 (gS_args xs j 1 1)) (gH.eq eq_HMr g1.1.2.1) rfl)
theorem pk_chance {xs : List Int32} {j : Int32} {h : MH} (hJ : JK h) : PairOK JK TL 66 167 (argsOf xs j 3 1) h := up_l (M1 := m_X6_chance) (M2 := m_X7_chance) hJ rfl rfl (ent_this 0 xs j 3 1 _ (by decide)) (ent_this 123 xs j 3 1 _ (by decide)) (by decide) (SPl.ct p_cc74 rfl (gS_this 0 (gS_args xs j 3 1)) (gH.eq eq_HCr hJ.1.1) rfl) (KL_chance hJ.2 _ _ _) (fun h1 g1 => SPl.ct p_cm74 rfl (gS_this 123 (gS_args xs j 3 1)) (gH.eq eq_HMr g1.1.2.1) rfl)
theorem pk_digest {xs : List Int32} {j : Int32} {h : MH} (hJ : JK h) : PairOK JK TL 77 185 (argsOf xs j 0 1) h := up_l (M1 := m_X6_digest) (M2 := m_X7_digest) hJ rfl rfl (ent_this 0 xs j 0 1 _ (by decide)) (ent_this 123 xs j 0 1 _ (by decide)) (by decide) (SPl.ct p_cc82 rfl (gS_this 0 (gS_args xs j 0 1)) (gH.eq eq_HCr hJ.1.1) rfl) (KL_digest hJ.2) (fun h1 g1 => SPl.ct p_cm83 rfl (gS_this 123 (gS_args xs j 0 1)) (gH.eq eq_HMr g1.1.2.1) rfl)
theorem KF_0 : KF (cI h0) := by
  refine ⟨⟨⟨⟨⟨?_, ?_, ?_, ?_⟩, ?_, ?_, ?_, ?_, ?_, ?_⟩, ?_, ?_⟩, ⟨⟨⟨-1, Or.inr ⟨?_, ?_⟩, ?_⟩, ?_⟩, ?_, ?_⟩, ⟨?_, ?_, ?_, ?_, ?_, ?_, ?_⟩, ⟨?_, ?_, ?_, ?_, ?_⟩, ⟨?_, ?_⟩⟩, KX.stale ?_ ?_⟩
  · decide +kernel
  · decide +kernel
  · decide +kernel
  · decide +kernel
  · decide +kernel
  · decide +kernel
  · decide +kernel
  · decide +kernel
  · decide +kernel
  · decide +kernel
  · decide +kernel
  · decide +kernel
  · decide +kernel
  · decide +kernel
  · decide +kernel
  · decide +kernel
  · unfold KC1; decide +kernel
  · unfold KC2; decide +kernel
  · decide +kernel
  · decide +kernel
  · decide +kernel
  · decide +kernel
  · intro e he
    have e0 : (cI h0 2 3).toNatClampNeg = 0 := by decide +kernel
    omega
  · decide +kernel
  · decide +kernel
  · decide +kernel
  · decide +kernel
  · decide +kernel
  · decide +kernel
  · intro e he
    have e0 : (cI h0 6 2).toNatClampNeg = 0 := by decide +kernel
    omega
  · unfold KHq; decide +kernel
  · decide +kernel
  · decide +kernel
  · decide +kernel
theorem JK_0 : JK h0 := ⟨J1_0, KF_0⟩
