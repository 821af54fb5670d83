/-! THE SMALL MACHINE IS SOUND: what it comes to, the machine comes to -/
def okT : Prop := ∀ (y : Nat) (M1 : MM), m_tab[y]? = some M1 → (∀ (i : Nat) (row : MR), (mc M1)[i]? = some row → m_chk m_tab M1 i row = true) ∧ plainName (mn M1).cls = true ∧ c_0 M1 = true ∧ zcd M1 ∈ W0
/-- what the end of a run must give -/
def zF (p : Program) (l : Launch) (e : Env) (R : Room) (s : State) (m : MethodId) (args : Array Value) (below : List Frame) (meth : Method) (c : Code) (Q : State → Prop) (b base k0 z0 : Nat) (cs : Nat → ClassId) (D : va_G) (fl : Bool) (xs : List Int32) (M : MM) (r : Option Value) (h1 : MH) : Prop :=
  ∀ (i : Nat) (row : MR) (L : ML) (st : List Value) (ls : Array Slot) (H : Heap) (locs : List Loc) (cells slots : Nat), (mc M)[i]? = some row → mexec fl xs row.2.1 row.2.2.2 i L st h1 = some (.inr (.inr r)) → zR b base (mx M) L ls → zA b base k0 z0 cs D s h1 H locs cells slots → W p l e R s m args below meth c H locs cells slots Q (F0 m row.1 ls (st.map (zt b base)))
theorem sound (hT : okT) (l : Launch) (b base : Nat) (cs : Nat → ClassId) (D : va_G) (scr : Cell) (xs : List Int32) : ∀ (n : Nat) (fl : Bool) (M : MM) (i : Nat) (L : ML) (st : List Value) (h : MH) (r : Option Value) (h1 : MH), mrun m_tab xs n fl M i L st h = some (r, h1) → (∀ (i : Nat) (row : MR), (mc M)[i]? = some row → m_chk m_tab M i row = true) →
    ∀ (p : Program) (e : Env) (R : Room) (s : State) (m : MethodId) (args : Array Value) (below : List Frame) (meth : Method) (c : Code) (Q : State → Prop) (k0 z0 : Nat) (row : MR) (ls : Array Slot) (H : Heap) (locs : List Loc) (cells slots : Nat), zC b base k0 cs D scr xs p R s m args meth c M → h1.length ≤ k0 + R.cells → zs h1 ≤ z0 + R.slots → (mc M)[i]? = some row → zR b base (mx M) L ls → zA b base k0 z0 cs D s h H locs cells slots → zF p l e R s m args below meth c Q b base k0 z0 cs D fl xs M r h1 → W p l e R s m args below meth c H locs cells slots Q (F0 m row.1 ls (st.map (zt b base))) := by
  intro n
  induction n with
  | zero => intro fl M i L st h r h1 hm; cases hm
  | succ n ih =>
    intro fl M i L st h r h1 hm hck p e R s m args below meth c Q k0 z0 row ls H locs cells slots C hR1 hR2 hrow rl a hfin
    rw [mrun_s] at hm
    unfold mbody at hm
    have hstep : mstep fl xs M i L st h = mexec fl xs row.2.1 row.2.2.2 i L st h := by unfold mstep; rw [hrow]
    rw [hstep] at hm
    have hchk := hck i row hrow
    split at hm
    · cases hm
    · rename_i i2 L2 st2 h2 hs
      have hup := mrun_up m_tab xs n _ _ _ _ _ _ _ _ hm
      exact st_next C hchk hs (Nat.le_trans hup.1 hR1) (Nat.le_trans hup.2 hR2) rl a (fun r2 ls2 H2 locs2 cells2 slots2 hr2 rl2 a2 => ih fl M i2 L2 st2 h2 r h1 hm hck p e R s m args below meth c Q k0 z0 r2 ls2 H2 locs2 cells2 slots2 C hR1 hR2 hr2 rl2 a2 hfin)
    · rename_i y as rest hs
      split at hm
      · cases hm
      · rename_i M1 hy
        obtain ⟨g1, hm⟩ := b_if hm
        have g1 : (entL as).length ≤ mx M1 := Nat.le_of_ble_eq_true g1
        obtain ⟨hck1, hpl, hc0, hcw⟩ := hT y M1 hy
        split at hm
        · cases hm
        · rename_i r2 h2 hc
          have hup := mrun_up m_tab xs n _ _ _ _ _ _ _ _ hc
          have hup2 := mrun_up m_tab xs n _ _ _ _ _ _ _ _ hm
          have hM : zMC l b base cs D scr xs M1 as h r2 h2 := by
            unfold zMC
            refine Met.ofW (cc := mb M1) (maxL := mx M1) (ret := mt M1) hpl rfl ?_
            intro p e s m args below meth c s₁ B hml hv
            obtain ⟨rfl, hP, hsz, hscr, hX⟩ := hv
            have hts := atoms_spec (ws := zcd M1 :: W0) B.pre
            rw [lg_entry_eq]
            have hbb : b < base := C.2.2.2.2.2.2.2.2.2.2.2.2.1
            have C1 : zC b base h.length cs D scr xs p (zrm M1 h h2) s m (as.map (zt b base)).toArray meth c M1 := ⟨B.exec, B.bytes, hml, B.returns, findClass_of_methodNamed B.named, fun w hw => hts w (List.mem_cons_of_mem _ hw), B.notSynchronized, fun hin => ((name_of_methodNamed B.named B.method).1.trans hin), hX, Nat.le_refl _, Nat.le_refl _, hsz, hbb, hscr⟩
            have hr0 : ∃ row0, (mc M1)[0]? = some row0 := by
              cases n with
              | zero => cases hc
              | succ n =>
                rw [mrun_s] at hc
                unfold mbody mstep at hc
                cases hr0 : (mc M1)[0]? with
                | none => rw [hr0] at hc; cases hc
                | some row0 => exact ⟨row0, rfl⟩
            obtain ⟨row0, hr0⟩ := hr0
            have hp0 : row0.1 = 0 := by
              unfold c_0 at hc0
              rw [hr0] at hc0
              exact of_decide_eq_true hc0
            have := ih false M1 0 (m_ent (mx M1) as) [] h r2 h2 hc hck1 p e (zrm M1 h h2) s m (as.map (zt b base)).toArray below meth c (MQ below (zQc b base cs D r2 h2) (as.map (zt b base)).toArray s (h2.length - h.length) (zs h2 - zs h) (fun q => base ≤ q)) h.length (zs h) row0 _ s.heap [] 0 0 C1 (by show _ ≤ h.length + (h2.length - h.length); omega) (by show _ ≤ zs h + (zs h2 - zs h); omega) hr0 (zR.entry g1) ⟨hP, va_S.rf, rfl, rfl⟩ (fun i3 row3 L3 st3 ls3 H3 locs3 cells3 slots3 hr3 hm3 rl3 a3 => by
              have e1 : cells3 = h2.length - h.length := by have := a3.2.2.1; omega
              have e2 : slots3 = zs h2 - zs h := by have := a3.2.2.2; omega
              subst e1
              subst e2
              exact st_fin C1 (hck1 i3 row3 hr3) hm3 a3)
            rw [hp0] at this
            exact this
          exact st_call C hchk hs hy hcw hM hup (Nat.le_trans hup2.1 hR1) (Nat.le_trans hup2.2 hR2) rl a (fun r3 ls2 H2 locs2 cells2 slots2 hr2 rl2 a2 => ih fl M (i + 1) L (r2.toList ++ rest) h2 r h1 hm hck p e R s m args below meth c Q k0 z0 r3 ls2 H2 locs2 cells2 slots2 C hR1 hR2 hr2 rl2 a2 hfin)
    · rename_i r2 hs
      cases hm
      exact hfin i row L st ls H locs cells slots hrow hs rl a
