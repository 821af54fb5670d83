/-! runs of the model's methods look at the model's cells alone; runs of the class's methods at the class's -/
theorem ustep_e {M : MM} {i pc len : Nat} {ins : Instr} {ops : List Int} (hr : (mc M)[i]? = some (pc, ins, len, ops)) (L : ML) (st : List Value) (s : SG) : ustep M i L st s = uexec ins ops i L st s := by
  unfold ustep
  rw [hr]
theorem ucong {R : Nat → Bool} (hcl : ∀ a d, R a = true → R (a + d) = true) (hua : ∀ a j, R a = true → R (uar a j) = true) : ∀ (n y : Nat) (M : MM) (i : Nat) (L : ML) (st : List Value) (s t : SG) (r : Option Value) (s1 : SG), y ∈ msU → m_tab[y]? = some M → rgL R L → rgS R st → eqR R s t → urun n M i L st s = some (r, s1) → ∃ t1, urun n M i L st t = some (r, t1) ∧ eqR R s1 t1 ∧ rgT R r := by
  intro n
  induction n with
  | zero => intro y M i L st s t r s1 _ _ _ _ _ e; cases e
  | succ n ih =>
    intro y M i L st s t r s1 hy hM hl hs h e
    rw [urun_s] at e
    rw [urun_s]
    unfold ubody at e
    unfold ubody
    have key : ∀ o, ustep M i L st s = some o → rgO R o ∧ ∃ o1, ustep M i L st t = some o1 ∧ rgE R o o1 := by
      intro o ho
      have ho2 := ho
      unfold ustep at ho2
      split at ho2
      · rename_i pc ins len ops hr
        obtain ⟨k1, k2⟩ := okU_sp hy hM hr
        refine ⟨ue_r k1 k2 hl hs (fun a r d e1 _ _ => hcl a d (by subst e1; exact hs.hd)) (fun j a r e1 _ => hua a _ (by subst e1; exact hs.tl.hd)) ho2, ?_⟩
        rw [ustep_e hr]
        exact ue_c hs h ho2
      · cases ho2
    split at e
    · cases e
    · rename_i i2 L2 st2 s2 hs2
      obtain ⟨ro, o1, k1, k2⟩ := key _ hs2
      rcases o1 with ⟨j2, K2, u2, t2⟩ | x
      · obtain ⟨rfl, rfl, rfl, h2⟩ := k2
        rw [k1]
        exact ih y _ _ _ _ _ _ _ _ hy hM ro.1 ro.2 h2 e
      · exact k2.elim
    · rename_i y2 as rest hs2
      obtain ⟨ro, o1, k1, k2⟩ := key _ hs2
      rcases o1 with x | x
      · exact k2.elim
      · have k2 : x = Sum.inl (y2, as, rest) := k2
        subst k2
        split at e
        · cases e
        · rename_i M2 hM2
          split at e
          · cases e
          · rename_i r2 s2 hc
            obtain ⟨t2, e1, h1, rt⟩ := ih y2 _ _ _ _ _ t _ _ ro.1 hM2 (rgL.ent ro.2.1 _) rgS.nil h hc
            obtain ⟨t3, e3, h3, rt3⟩ := ih y _ _ _ _ _ t2 _ _ hy hM hl (rgS.ret rt ro.2.2) h1 e
            refine ⟨t3, ?_, h3, rt3⟩
            rw [k1]
            show (match m_tab[y2]? with | none => none | some M1 => _) = _
            rw [hM2]
            dsimp only
            rw [e1]
            exact e3
    · rename_i r2 hs2
      obtain ⟨ro, o1, k1, k2⟩ := key _ hs2
      rcases o1 with x | x
      · exact k2.elim
      · have k2 : x = Sum.inr r2 := k2
        subst k2
        cases e
        rw [k1]
        exact ⟨t, rfl, h, ro⟩
def rgC (a : Nat) : Bool := Nat.blt a 123
def rgM (a : Nat) : Bool := Nat.ble 123 a
theorem rgC_iff {a : Nat} : rgC a = true ↔ a < 123 := by unfold rgC; rw [Nat.blt_eq]
theorem rgM_iff {a : Nat} : rgM a = true ↔ 123 ≤ a := by unfold rgM; rw [Nat.ble_eq]
theorem ucongM {n y : Nat} {M : MM} {i : Nat} {L : ML} {st : List Value} {s t : SG} {r : Option Value} {s1 : SG} (hy : y ∈ msU) (hM : m_tab[y]? = some M) (hl : rgL rgM L) (hs : rgS rgM st) (h : eqR rgM s t) (e : urun n M i L st s = some (r, s1)) : ∃ t1, urun n M i L st t = some (r, t1) ∧ eqR rgM s1 t1 ∧ rgT rgM r := by
  refine ucong (fun a d q => ?_) (fun a j q => ?_) n y M i L st s t r s1 hy hM hl hs h e
  · have := rgM_iff.mp q
    exact rgM_iff.mpr (by omega)
  · have := rgM_iff.mp q
    refine rgM_iff.mpr ?_
    unfold uar
    rw [if_neg (by omega), if_neg (by omega)]
    omega
def clA (f : AF) : Bool := match f with
  | .inl q => Nat.blt q 123
  | .inr _ => true
def clF (a : Nat) (c : Option AC) : Bool := match c with
  | some (.inr (.inr (_, fs))) => fs.all clA
  | some (.inr (.inl (_, rs))) => (List.range rs.length).all (fun j => Nat.blt (uar a j) 123)
  | _ => true
theorem cl_all : (List.range 123).all (fun a => clF a HU[a]?) = true := by decide +kernel
theorem cl_get {h : MH} {a ci k d : Nat} {v : Value} {vs : List Value} (g : gH HU h) (hr : rgC a = true) (hx : h[a]? = some (.inr (ci, vs))) (hv : vs[k]? = some v) (hd : ufd ci k = some d) : rgC (a + d) = true := by
  obtain ⟨gs, f, hc, -, hf, -, kf, -⟩ := hu_obj g hx hv
  have q : clF a HU[a]? = true := List.all_eq_true.mp cl_all a (List.mem_range.mpr (rgC_iff.mp hr))
  rw [hc] at q
  have q : gs.all clA = true := q
  have q := List.all_eq_true.mp q f (List.mem_of_getElem? hf)
  rcases f with q0 | ⟨lo, hi, fz⟩
  · have kf : (match ufd ci k with | some d => q0 == a + d | none => false) = true := kf
    rw [hd] at kf
    have kf : q0 = a + d := by simpa using kf
    rw [← kf]
    exact q
  · obtain ⟨kf, -⟩ := b_and kf
    rw [hd] at kf
    cases kf
theorem cl_arr {h : MH} {a t j : Nat} {l : List (Option Nat)} (g : gH HU h) (hr : rgC a = true) (hx : h[a]? = some (.inl (t, .inr l))) (hj : j < l.length) : rgC (uar a j) = true := by
  obtain ⟨c, hc, gc, kc⟩ := hu_at g hx
  rcases c with ⟨t2, n, lo, hi, fz⟩ | ⟨t2, rs⟩ | ⟨cj, fs⟩
  · obtain ⟨l2, e, -⟩ := gc
    cases e
  · obtain ⟨k1, k2⟩ := b_and kc
    rcases gc with e | e
    · rw [e] at k1
      cases k1
    · cases e
      rw [List.length_map] at hj
      have q : clF a HU[a]? = true := List.all_eq_true.mp cl_all a (List.mem_range.mpr (rgC_iff.mp hr))
      rw [hc] at q
      exact List.all_eq_true.mp q j (List.mem_range.mpr hj)
  · obtain ⟨ws, e, -⟩ := gc
    cases e
theorem mloc : ∀ (n y : Nat) (M : MM) (i : Nat) (L U : ML) (st : List Value) (h : MH) (r : Option Value) (h1 : MH) (t : SG), y ∈ msU → m_tab[y]? = some M → gH HU h → lqL L U → rgL rgC U → rgS rgC st → eqR rgC (cI h) t → mrun m_tab [] n false M i L st h = some (r, h1) → ∃ t1, urun n M i U st t = some (r, t1) ∧ eqR rgC (cI h1) t1 ∧ rgT rgC r ∧ gH HU h1 := by
  intro n
  induction n with
  | zero => intro y M i L U st h r h1 t _ _ _ _ _ _ _ hm; cases hm
  | succ n ih =>
    intro y M i L U st h r h1 t hy hM g l hl hs heq hm
    rw [mrun_s] at hm
    rw [urun_s]
    unfold mbody at hm
    unfold ubody
    have key : ∀ o, mstep false [] M i L st h = some o → ∃ p, rU o p ∧ rgO rgC p ∧ ∃ o1, ustep M i U st t = some o1 ∧ rgE rgC p o1 := by
      intro o ho
      unfold mstep at ho
      split at ho
      · rename_i pc ins len ops hr
        obtain ⟨k1, k2⟩ := okU_sp hy hM hr
        obtain ⟨p, hp, ru⟩ := uexec_ok g l k1 ho
        refine ⟨p, ru, ue_r k1 k2 hl hs ?_ ?_ hp, ?_⟩
        · intro a q d e1 e2 hd
          subst e1
          obtain ⟨k, rfl⟩ := e2
          have ho : o_get (m_n ops 0) (m_n ops 1) i L (.ref a :: q) h = some o := ho
          unfold o_get at ho
          dsimp only at ho
          split at ho
          · rename_i c fs hx
            obtain ⟨hc, ho2⟩ := b_if ho
            have hc : c = m_n ops 0 := by simpa using hc
            split at ho2
            · rename_i v hv
              rw [hc] at hx
              exact cl_get g hs.hd hx hv hd
            · cases ho2
          · cases ho
        · intro j a q e1 e2
          subst e1
          subst e2
          have ho : o_aald i L (.int j :: .ref a :: q) h = some o := ho
          unfold o_aald at ho
          dsimp only at ho
          split at ho
          · rename_i u lx hx
            obtain ⟨hb, -⟩ := b_if ho
            exact cl_arr g hs.tl.hd hx (m_ok_lt (b_and hb).2)
          · cases ho
        · rw [ustep_e hr]
          exact ue_c hs heq hp
      · cases ho
    split at hm
    · cases hm
    · rename_i i2 L2 st2 h2 hs2
      obtain ⟨p, ru, ro, o1, k1, k2⟩ := key _ hs2
      rcases p with ⟨j2, U2, st3, s2⟩ | x
      · obtain ⟨rfl, rfl, rfl, l2, g2⟩ := ru
        rcases o1 with ⟨j3, K2, u2, t2⟩ | x
        · obtain ⟨rfl, rfl, rfl, h3⟩ := k2
          rw [k1]
          exact ih y _ _ _ _ _ _ _ _ _ hy hM g2 l2 ro.1 ro.2 h3 hm
        · exact k2.elim
      · exact ru.elim
    · rename_i y2 as rest hs2
      obtain ⟨p, ru, ro, o1, k1, k2⟩ := key _ hs2
      rcases p with x | x
      · exact ru.elim
      · have ru : Sum.inl (y2, as, rest) = x := ru
        subst ru
        rcases o1 with x | x
        · exact k2.elim
        · have k2 : x = Sum.inl (y2, as, rest) := k2
          subst k2
          split at hm
          · cases hm
          · rename_i M2 hM2
            have hm := (b_if hm).2
            split at hm
            · cases hm
            · rename_i r2 h2 hc
              obtain ⟨t2, e1, h3, rt, g1⟩ := ih y2 _ _ _ _ _ _ _ _ t ro.1 hM2 g (lqL.rf _) (rgL.ent ro.2.1 _) rgS.nil heq hc
              obtain ⟨t3, e3, h4, rt3, g3⟩ := ih y _ _ _ _ _ _ _ _ t2 hy hM g1 l hl (rgS.ret rt ro.2.2) h3 hm
              refine ⟨t3, ?_, h4, rt3, g3⟩
              rw [k1]
              show (match m_tab[y2]? with | none => none | some M1 => _) = _
              rw [hM2]
              dsimp only
              rw [e1]
              exact e3
    · rename_i r2 hs2
      obtain ⟨p, ru, ro, o1, k1, k2⟩ := key _ hs2
      rcases p with x | x
      · exact ru.elim
      · have ru : Sum.inr r2 = x := ru
        subst ru
        rcases o1 with x | x
        · exact k2.elim
        · have k2 : x = Sum.inr r2 := k2
          subst k2
          cases hm
          rw [k1]
          exact ⟨t, rfl, heq, ro, g⟩
