/-! type, wipe, undo: what they answer and do to the texts' lengths (class: field 1 of cells 109, 111, 113; model: cell 124) -/
theorem eq_HCs : eqH HC HCs = true := by decide +kernel
theorem eq_HCr : eqH HCs HC = true := by decide +kernel
theorem eq_HMs : eqH HM HMs = true := by decide +kernel
theorem eq_HMr : eqH HMs HM = true := by decide +kernel
def cl_any (H : AH) (lo n : Nat) : Bool := (List.range n).all (fun j => match H[lo + j]? with | some (.inr (.inl _)) => true | _ => false)
theorem fH_any {H : AH} {h h1 : MH} {lo n a : Nat} (hc : cl_any H lo n = true) (f : fH H h h1) (g : gH H h) (g1 : gH H h1) (h2 : lo ≤ a) (h3 : a < lo + n) : h1[a]? = h[a]? := by
  have := List.all_eq_true.mp hc (a - lo) (List.mem_range.mpr (by omega))
  rw [show lo + (a - lo) = a by omega] at this
  split at this
  · rename_i q hq
    obtain ⟨x, hx, -⟩ := g.2 a _ hq
    obtain ⟨y, hy, -⟩ := g1.2 a _ hq
    have e : y = x := f a _ x y hq hx hy
    rw [hx, hy, e]
  · cases this
theorem fI_fz {H : AH} {h h1 : MH} {ci k a : Nat} {lo hi : Int} (f : fH H h h1) (g : gH H h) (g1 : gH H h1) (hf : a_fd H ci k a = some (.inr (lo, hi, true))) : fI h1 a k = fI h a k := by
  obtain ⟨fs, vs, v, hc, hfk, hx, -, hv, -, -⟩ := fd_sp g hf
  obtain ⟨fs2, ws, w, hc2, -, hy, -, hw, -, -⟩ := fd_sp g1 hf
  obtain ⟨us, e1, e2⟩ := f a _ _ _ hc hx hy ci vs rfl
  cases e1
  have e3 := e2 k _ hfk (fun l u q => by cases q)
  unfold fI
  rw [hx, hy]
  dsimp only
  rw [e3]
theorem gH.lt {H : AH} {h : MH} (g : gH H h) {a : Nat} {x : ME} (hx : h[a]? = some x) : a < H.length := by rw [g.1]; exact (List.getElem?_eq_some_iff.mp hx).1
/-- cells from a place on stay -/
def sameFrom (lo : Nat) (h h1 : MH) : Prop := ∀ a, lo ≤ a → h1[a]? = h[a]?
def sameTo (hi : Nat) (h h1 : MH) : Prop := ∀ a, a < hi → h1[a]? = h[a]?
theorem HCs_len : HCs.length = 153 := by decide +kernel
theorem HC_len : HC.length = 153 := by decide +kernel
theorem HM_len : HM.length = 153 := by decide +kernel
theorem HMs_len : HMs.length = 153 := by decide +kernel
theorem any_Cs : cl_any HCs 123 30 = true := by decide +kernel
theorem any_C : cl_any HC 123 30 = true := by decide +kernel
theorem any_M : cl_any HM 0 123 = true := by decide +kernel
theorem any_Ms : cl_any HMs 0 123 = true := by decide +kernel
theorem from_of {H : AH} {h h1 : MH} (hl : H.length = 153) (hc : cl_any H 123 30 = true) (f : fH H h h1) (g : gH H h) (g1 : gH H h1) : sameFrom 123 h h1 := by
  intro a ha
  by_cases hb : a < 153
  · exact fH_any hc f g g1 ha (by omega)
  · have e1 : h.length = 153 := g.1.symm.trans hl
    have e2 : h1.length = 153 := g1.1.symm.trans hl
    rw [List.getElem?_eq_none (show h1.length ≤ a by omega), List.getElem?_eq_none (show h.length ≤ a by omega)]
theorem to_of {H : AH} {h h1 : MH} (hc : cl_any H 0 123 = true) (f : fH H h h1) (g : gH H h) (g1 : gH H h1) : sameTo 123 h h1 := by
  intro a ha
  exact fH_any hc f g g1 (Nat.zero_le a) (by omega)
def len (h : MH) (j : Nat) : Int32 := fI h (109 + 2 * j) 1
def typ (h : MH) (j : Nat) : Int32 := aI h 124 j
theorem len_of {h h1 : MH} {a k : Nat} {x : Int32} (e : ∀ b, b ≠ a → h1[b]? = h[b]?) (j : Nat) (hj : 109 + 2 * j ≠ a) : len h1 j = len h j := fI_cong (e _ hj)
theorem x_012 {t : Int32} (h1 : 0 ≤ t.toInt) (h2 : t.toInt < 3) : t = 0 ∨ t = 1 ∨ t = 2 := by
  have : t.toInt = 0 ∨ t.toInt = 1 ∨ t.toInt = 2 := by omega
  rcases this with q | q | q
  · exact Or.inl (Int32.toInt_inj.mp q)
  · exact Or.inr (Or.inl (Int32.toInt_inj.mp q))
  · exact Or.inr (Or.inr (Int32.toInt_inj.mp q))
/-- what type, wipe, undo of the class do: the model's cells stay, the lengths become f's -/
def LnP (h : MH) (r : Option Value) (h1 : MH) (v : Int32) (f : Nat → Int32) : Prop := gH HC h1 ∧ sameFrom 123 h h1 ∧ r = some (.int v) ∧ ∀ j, j < 3 → len h1 j = f j

theorem x_wipe_bad (t : Int32) (h : MH) (ht : ¬ (0 ≤ t.toInt ∧ t.toInt < 3)) : RP m_X6_wipe 0 (m_ent 3 [.ref 0, .int t]) [] h (fun r h1 => h1 = h ∧ r = some (.int (-2))) := by
  have z3 : (3 : Int32).toInt = 3 := by decide
  refine RP.step rfl ?_
  refine RP.step rfl ?_
  refine c_isBelow (v := t) (n := 3) rfl (fun q1 q2 => absurd ⟨q1, by omega⟩ ht) (fun q => ?_)
  refine RP.step rfl ?_
  refine RP.step rfl ?_
  exact RP.ret rfl ⟨rfl, rfl⟩

theorem x_wipe_0 (h : MH) (gh : gH HC h) : RP m_X6_wipe 0 (m_ent 3 [.ref 0, .int 0]) [] h (fun r h1 => LnP h r h1 (len h 0) (fun k => if k = 0 then 0 else len h k)) := by
  refine RP.step rfl ?_
  refine RP.step rfl ?_
  refine c_isBelow (v := 0) (n := 3) rfl (fun q1 q2 => ?_) (fun q => absurd ⟨by decide, by decide⟩ q)
  refine RP.step rfl ?_
  refine RP.step rfl ?_
  refine RP.getR rfl gh rfl ?_
  refine RP.step rfl ?_
  refine RP.aald rfl gh rfl rfl rfl rfl ?_
  refine RP.getI rfl gh rfl (fun r1 r2 => ?_)
  refine RP.step rfl ?_
  refine RP.step rfl ?_
  refine RP.getR rfl gh rfl ?_
  refine RP.step rfl ?_
  refine RP.aald rfl gh rfl rfl rfl rfl ?_
  refine RP.step rfl ?_
  refine RP.putI rfl gh rfl rfl ?_
  have hf : a_fd HC 4 1 109 = some (.inr (0, 23, true)) := rfl
  obtain ⟨g1, e1, -⟩ := setF_sp (x := 0) gh hf (by decide) (by decide)
  obtain ⟨vs, hx⟩ := ob_sp (a := 0) (ci := 6) g1 rfl
  refine RP.step rfl ?_
  refine RP.step rfl ?_
  refine RP.callP (cv_step rfl rfl hx rfl rfl) p_sc8 rfl ⟨⟨0, rfl, List.mem_singleton.mpr rfl⟩, ⟨0, rfl, by decide, by decide, fun k d q => by cases q⟩, trivial⟩ (g1.eq eq_HCs) (fun r h2 alt ha gr g2 f2 => ?_)
  have g1s := g1.eq eq_HCs
  have er : r = none := by
    have := List.mem_singleton.mp ha
    subst this
    cases r with
    | none => rfl
    | some v => exact gr.elim
  subst er
  refine RP.step rfl ?_
  refine RP.ret rfl ⟨g2.eq eq_HCr, fun a hb => ?_, rfl, fun k hk => ?_⟩
  · exact (from_of HCs_len any_Cs f2 g1s g2 a hb).trans (setF_ne (by omega))
  · have l0 : len h2 0 = len (setF h 109 1 0) 0 := fI_fz f2 g1s g2 (show a_fd HCs 4 1 109 = some (.inr (0, 23, true)) from rfl)
    have l1 : len h2 1 = len (setF h 109 1 0) 1 := fI_fz f2 g1s g2 (show a_fd HCs 4 1 111 = some (.inr (0, 24, true)) from rfl)
    have l2 : len h2 2 = len (setF h 109 1 0) 2 := fI_fz f2 g1s g2 (show a_fd HCs 4 1 113 = some (.inr (0, 24, true)) from rfl)
    match k, hk with
    | 0, _ => exact l0.trans (e1)
    | 1, _ => exact l1.trans (fI_cong (setF_ne (by decide)))
    | 2, _ => exact l2.trans (fI_cong (setF_ne (by decide)))

theorem x_wipe_1 (h : MH) (gh : gH HC h) : RP m_X6_wipe 0 (m_ent 3 [.ref 0, .int 1]) [] h (fun r h1 => LnP h r h1 (len h 1) (fun k => if k = 1 then 0 else len h k)) := by
  refine RP.step rfl ?_
  refine RP.step rfl ?_
  refine c_isBelow (v := 1) (n := 3) rfl (fun q1 q2 => ?_) (fun q => absurd ⟨by decide, by decide⟩ q)
  refine RP.step rfl ?_
  refine RP.step rfl ?_
  refine RP.getR rfl gh rfl ?_
  refine RP.step rfl ?_
  refine RP.aald rfl gh rfl rfl rfl rfl ?_
  refine RP.getI rfl gh rfl (fun r1 r2 => ?_)
  refine RP.step rfl ?_
  refine RP.step rfl ?_
  refine RP.getR rfl gh rfl ?_
  refine RP.step rfl ?_
  refine RP.aald rfl gh rfl rfl rfl rfl ?_
  refine RP.step rfl ?_
  refine RP.putI rfl gh rfl rfl ?_
  have hf : a_fd HC 4 1 111 = some (.inr (0, 24, true)) := rfl
  obtain ⟨g1, e1, -⟩ := setF_sp (x := 0) gh hf (by decide) (by decide)
  obtain ⟨vs, hx⟩ := ob_sp (a := 0) (ci := 6) g1 rfl
  refine RP.step rfl ?_
  refine RP.step rfl ?_
  refine RP.callP (cv_step rfl rfl hx rfl rfl) p_sc8 rfl ⟨⟨0, rfl, List.mem_singleton.mpr rfl⟩, ⟨1, rfl, by decide, by decide, fun k d q => by cases q⟩, trivial⟩ (g1.eq eq_HCs) (fun r h2 alt ha gr g2 f2 => ?_)
  have g1s := g1.eq eq_HCs
  have er : r = none := by
    have := List.mem_singleton.mp ha
    subst this
    cases r with
    | none => rfl
    | some v => exact gr.elim
  subst er
  refine RP.step rfl ?_
  refine RP.ret rfl ⟨g2.eq eq_HCr, fun a hb => ?_, rfl, fun k hk => ?_⟩
  · exact (from_of HCs_len any_Cs f2 g1s g2 a hb).trans (setF_ne (by omega))
  · have l0 : len h2 0 = len (setF h 111 1 0) 0 := fI_fz f2 g1s g2 (show a_fd HCs 4 1 109 = some (.inr (0, 23, true)) from rfl)
    have l1 : len h2 1 = len (setF h 111 1 0) 1 := fI_fz f2 g1s g2 (show a_fd HCs 4 1 111 = some (.inr (0, 24, true)) from rfl)
    have l2 : len h2 2 = len (setF h 111 1 0) 2 := fI_fz f2 g1s g2 (show a_fd HCs 4 1 113 = some (.inr (0, 24, true)) from rfl)
    match k, hk with
    | 0, _ => exact l0.trans (fI_cong (setF_ne (by decide)))
    | 1, _ => exact l1.trans (e1)
    | 2, _ => exact l2.trans (fI_cong (setF_ne (by decide)))

theorem x_wipe_2 (h : MH) (gh : gH HC h) : RP m_X6_wipe 0 (m_ent 3 [.ref 0, .int 2]) [] h (fun r h1 => LnP h r h1 (len h 2) (fun k => if k = 2 then 0 else len h k)) := by
  refine RP.step rfl ?_
  refine RP.step rfl ?_
  refine c_isBelow (v := 2) (n := 3) rfl (fun q1 q2 => ?_) (fun q => absurd ⟨by decide, by decide⟩ q)
  refine RP.step rfl ?_
  refine RP.step rfl ?_
  refine RP.getR rfl gh rfl ?_
  refine RP.step rfl ?_
  refine RP.aald rfl gh rfl rfl rfl rfl ?_
  refine RP.getI rfl gh rfl (fun r1 r2 => ?_)
  refine RP.step rfl ?_
  refine RP.step rfl ?_
  refine RP.getR rfl gh rfl ?_
  refine RP.step rfl ?_
  refine RP.aald rfl gh rfl rfl rfl rfl ?_
  refine RP.step rfl ?_
  refine RP.putI rfl gh rfl rfl ?_
  have hf : a_fd HC 4 1 113 = some (.inr (0, 24, true)) := rfl
  obtain ⟨g1, e1, -⟩ := setF_sp (x := 0) gh hf (by decide) (by decide)
  obtain ⟨vs, hx⟩ := ob_sp (a := 0) (ci := 6) g1 rfl
  refine RP.step rfl ?_
  refine RP.step rfl ?_
  refine RP.callP (cv_step rfl rfl hx rfl rfl) p_sc8 rfl ⟨⟨0, rfl, List.mem_singleton.mpr rfl⟩, ⟨2, rfl, by decide, by decide, fun k d q => by cases q⟩, trivial⟩ (g1.eq eq_HCs) (fun r h2 alt ha gr g2 f2 => ?_)
  have g1s := g1.eq eq_HCs
  have er : r = none := by
    have := List.mem_singleton.mp ha
    subst this
    cases r with
    | none => rfl
    | some v => exact gr.elim
  subst er
  refine RP.step rfl ?_
  refine RP.ret rfl ⟨g2.eq eq_HCr, fun a hb => ?_, rfl, fun k hk => ?_⟩
  · exact (from_of HCs_len any_Cs f2 g1s g2 a hb).trans (setF_ne (by omega))
  · have l0 : len h2 0 = len (setF h 113 1 0) 0 := fI_fz f2 g1s g2 (show a_fd HCs 4 1 109 = some (.inr (0, 23, true)) from rfl)
    have l1 : len h2 1 = len (setF h 113 1 0) 1 := fI_fz f2 g1s g2 (show a_fd HCs 4 1 111 = some (.inr (0, 24, true)) from rfl)
    have l2 : len h2 2 = len (setF h 113 1 0) 2 := fI_fz f2 g1s g2 (show a_fd HCs 4 1 113 = some (.inr (0, 24, true)) from rfl)
    match k, hk with
    | 0, _ => exact l0.trans (fI_cong (setF_ne (by decide)))
    | 1, _ => exact l1.trans (fI_cong (setF_ne (by decide)))
    | 2, _ => exact l2.trans (e1)
