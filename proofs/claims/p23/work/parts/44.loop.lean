/-! THE LAW'S LOOP, over an invariant J of the heap and a contract for each pair of calls (printed by wip/p1/loopx.py) -/
def isI (i : Nat) (ins : Instr) : Bool := match (mc m_L_law)[i]? with
  | some (_, x, _, _) => decide (x = ins)
  | none => false
theorem isI_sp {i : Nat} {ins : Instr} (h : isI i ins = true) : ∃ pc len ops, (mc m_L_law)[i]? = some (pc, ins, len, ops) := by
  unfold isI at h
  split at h
  · rename_i pc x len ops hr
    rw [of_decide_eq_true h] at hr
    exact ⟨pc, len, ops, hr⟩
  · cases h
def isC (i y n c : Nat) : Bool := match (mc m_L_law)[i]? with
  | some (_, .invokevirtual _, _, ops) => decide (m_n ops 0 = y) && (decide (m_n ops 1 = n) && decide (m_n ops 2 = c))
  | _ => false
theorem isC_sp {i y n c : Nat} (h : isC i y n c = true) : ∃ pc idx len ops, (mc m_L_law)[i]? = some (pc, .invokevirtual idx, len, ops) ∧ m_n ops 0 = y ∧ m_n ops 1 = n ∧ m_n ops 2 = c := by
  unfold isC at h
  split at h
  · rename_i pc idx len ops hr
    obtain ⟨h1, h2⟩ := b_and h
    obtain ⟨h2, h3⟩ := b_and h2
    exact ⟨pc, idx, len, ops, hr, of_decide_eq_true h1, of_decide_eq_true h2, of_decide_eq_true h3⟩
  · cases h
def isG (i t : Nat) : Bool := match (mc m_L_law)[i]? with
  | some (_, .goto _, _, ops) => decide (m_n ops 0 = t)
  | _ => false
theorem isG_sp {i t : Nat} (h : isG i t = true) : ∃ pc off len ops, (mc m_L_law)[i]? = some (pc, .goto off, len, ops) ∧ m_n ops 0 = t := by
  unfold isG at h
  split at h
  · rename_i pc off len ops hr
    exact ⟨pc, off, len, ops, hr, of_decide_eq_true h⟩
  · cases h
def isQ (i : Nat) (c : Jvm.ClassFile.Cond) (t : Nat) : Bool := match (mc m_L_law)[i]? with
  | some (_, .if_icmp x _, _, ops) => decide (x = c) && decide (m_n ops 0 = t)
  | _ => false
theorem isQ_sp {i t : Nat} {c : Jvm.ClassFile.Cond} (h : isQ i c t = true) : ∃ pc off len ops, (mc m_L_law)[i]? = some (pc, .if_icmp c off, len, ops) ∧ m_n ops 0 = t := by
  unfold isQ at h
  split at h
  · rename_i pc x off len ops hr
    obtain ⟨h1, h2⟩ := b_and h
    rw [of_decide_eq_true h1] at hr
    exact ⟨pc, off, len, ops, hr, of_decide_eq_true h2⟩
  · cases h
def isS (i : Nat) (q : List Int) : Bool := match (mc m_L_law)[i]? with
  | some (_, .tableswitch _ lo hi _, _, ops) => decide (lo = 0) && (decide (hi = 36) && decide (ops = q))
  | _ => false
theorem isS_sp {i : Nat} {q : List Int} (h : isS i q = true) : ∃ pc d offs len, (mc m_L_law)[i]? = some (pc, .tableswitch d 0 36 offs, len, q) := by
  unfold isS at h
  split at h
  · rename_i pc d lo hi offs len ops hr
    obtain ⟨h1, h2⟩ := b_and h
    obtain ⟨h2, h3⟩ := b_and h2
    rw [of_decide_eq_true h1, of_decide_eq_true h2, of_decide_eq_true h3] at hr
    exact ⟨pc, d, offs, len, hr⟩
  · cases h
def isR (i : Nat) : Bool := match (mc m_L_law)[i]? with
  | some (_, .ireturn, _, ops) => decide (m_n ops 0 = 1)
  | _ => false
theorem isR_sp {i : Nat} (h : isR i = true) : ∃ pc len ops, (mc m_L_law)[i]? = some (pc, .ireturn, len, ops) ∧ m_n ops 0 = 1 := by
  unfold isR at h
  split at h
  · rename_i pc len ops hr
    exact ⟨pc, len, ops, hr, of_decide_eq_true h⟩
  · cases h
/-- the law goes on from here to its end and answers 1 -/
def LwP (J : MH → Prop) (xs : List Int32) (i : Nat) (L : ML) (st : List Value) (h : MH) : Prop := ∃ h1, Rn true xs m_L_law i L st h (some (.int 1), h1) ∧ J h1
def sL (j : Int32) : ML := [some (.float 0), some (.ref 0), some (.ref 123), some (.int j)]
def sx (xs : List Int32) (j : Int32) (c : Nat) : Int32 := xs.getD (j + Int32.ofInt (c : Int)).toNatClampNeg 0
def argsOf (xs : List Int32) (j : Int32) : Nat → Nat → List Value
  | 0, _ => []
  | n + 1, c => .int (sx xs j c) :: argsOf xs j n (c + 1)
theorem argsOf_len (xs : List Int32) (j : Int32) : ∀ n c, (argsOf xs j n c).length = n
  | 0, _ => rfl
  | n + 1, c => by
    show (argsOf xs j n (c + 1)).length + 1 = n + 1
    rw [argsOf_len xs j n (c + 1)]
def a_rows : Nat → Nat → Nat → Bool
  | 0, _, _ => true
  | n + 1, c, i => isI i (.aload_n 0) && (isI (i + 1) (.iload_n 3) && (isI (i + 2) (.iconst (c : Int)) && (isI (i + 3) .iadd && (isI (i + 4) .iaload && a_rows n (c + 1) (i + 5)))))
def TA (r r2 : Option Value) : Prop := (∃ v, r = some (.int v)) ∧ ∃ v, r2 = some (.int v)
def TE (r r2 : Option Value) : Prop := ∃ v, r = some (.int v) ∧ r2 = some (.int v)
def TL (r r2 : Option Value) : Prop := (∃ v, r = some (.long v)) ∧ ∃ v, r2 = some (.long v)
theorem TE.a {r r2 : Option Value} (h : TE r r2) : TA r r2 := ⟨⟨_, h.choose_spec.1⟩, ⟨_, h.choose_spec.2⟩⟩
/-- the class's call, then the model's, with the same arguments -/
def PairOK (J : MH → Prop) (T : Option Value → Option Value → Prop) (y1 y2 : Nat) (as : List Value) (h : MH) : Prop := ∃ (M1 M2 : MM) (r : Option Value) (h1 : MH) (r2 : Option Value) (h2 : MH), m_tab[y1]? = some M1 ∧ m_tab[y2]? = some M2 ∧ Nat.ble (entL (.ref 0 :: as)).length (mx M1) = true ∧ Nat.ble (entL (.ref 123 :: as)).length (mx M2) = true ∧ (∃ vs, h[0]? = some (.inr (6, vs))) ∧ (∃ vs, h1[123]? = some (.inr (7, vs))) ∧ Rn false [] M1 0 (m_ent (mx M1) (.ref 0 :: as)) [] h (r, h1) ∧ Rn false [] M2 0 (m_ent (mx M2) (.ref 123 :: as)) [] h1 (r2, h2) ∧ T r r2 ∧ J h2
theorem PairOK.mono {J J2 : MH → Prop} {T T2 : Option Value → Option Value → Prop} {y1 y2 : Nat} {as : List Value} {h : MH} (p : PairOK J T y1 y2 as h) (hT : ∀ r r2, T r r2 → T2 r r2) (hJ : ∀ h, J h → J2 h) : PairOK J2 T2 y1 y2 as h := by
  obtain ⟨M1, M2, r, h1, r2, h2, a, b, c, d, e, f, g, k, t, q⟩ := p
  exact ⟨M1, M2, r, h1, r2, h2, a, b, c, d, e, f, g, k, hT _ _ t, hJ _ q⟩
section LAWS
variable {J : MH → Prop} {xs : List Int32} {i i1 : Nat} {L L1 : ML} {st st1 rest : List Value} {h h1 : MH} {j : Int32}
theorem LwP.I {ins : Instr} (hr : isI i ins = true) (hs : ∀ ops, mexec true xs ins ops i L st h = some (.inl (i1, L1, st1, h1))) (k : LwP J xs i1 L1 st1 h1) : LwP J xs i L st h := by
  obtain ⟨pc, len, ops, hrow⟩ := isI_sp hr
  obtain ⟨q, k1, k2⟩ := k
  refine ⟨q, Rn.step ?_ k1, k2⟩
  unfold mstep
  rw [hrow]
  exact hs ops
theorem LwP.G {t : Nat} (hr : isG i t = true) (k : LwP J xs t L st h) : LwP J xs i L st h := by
  obtain ⟨pc, off, len, ops, hrow, e⟩ := isG_sp hr
  obtain ⟨q, k1, k2⟩ := k
  refine ⟨q, Rn.step (i1 := t) (L1 := L) (st1 := st) (h1 := h) ?_ k1, k2⟩
  unfold mstep
  rw [hrow, ← e]
  rfl
theorem LwP.Q {t : Nat} {c : Jvm.ClassFile.Cond} {x y : Int32} (hr : isQ i c t = true) (kt : m_cmp c x y = true → LwP J xs t L st h) (kf : m_cmp c x y = false → LwP J xs (i + 1) L st h) : LwP J xs i L (.int y :: .int x :: st) h := by
  obtain ⟨pc, off, len, ops, hrow, e⟩ := isQ_sp hr
  cases hc : m_cmp c x y with
  | true =>
    obtain ⟨q, k1, k2⟩ := kt hc
    subst e
    exact ⟨q, Rn.icT hrow hc k1, k2⟩
  | false =>
    obtain ⟨q, k1, k2⟩ := kf hc
    exact ⟨q, Rn.icF hrow hc k1, k2⟩
theorem LwP.C {y n c a : Nat} {as vs : List Value} {M1 : MM} {r : Option Value} (hc : isC i y n c = true) (hx : h[a]? = some (.inr (c, vs))) (hl : as.length = n) (hsm : m_small rest = true) (hy : m_tab[y]? = some M1) (ha : Nat.ble (entL (.ref a :: as)).length (mx M1) = true) (kc : Rn false [] M1 0 (m_ent (mx M1) (.ref a :: as)) [] h (r, h1)) (k : LwP J xs (i + 1) L (r.toList ++ rest) h1) : LwP J xs i L (as.reverse ++ .ref a :: rest) h := by
  obtain ⟨pc, idx, len, ops, hrow, e0, e1, e2⟩ := isC_sp hc
  subst hl
  have e3 : as.reverse ++ .ref a :: rest = (as.reverse ++ [.ref a]) ++ rest := by simp
  have e4 : (as.reverse ++ [.ref a] : List Value).length = as.length + 1 := by simp
  have hs := cv_step (fl := true) (xs := xs) (L := L) (st := as.reverse ++ .ref a :: rest) (a := a) (as := as) hrow (by rw [e1, e3, List.take_left' e4]; simp) (by rw [e2]; exact hx) e1.symm (by rw [e1, e3, List.drop_left' e4]; exact hsm)
  rw [e0, e1, e3, List.drop_left' e4] at hs
  obtain ⟨q, k1, k2⟩ := k
  rw [e3]
  exact ⟨q, Rn.call hs hy ha kc.xs k1, k2⟩
theorem LwP.args (j1 : 0 ≤ j.toInt) (j2 : j.toInt + 6 ≤ (xs.length : Int)) (hx : xs.length ≤ 3072) : ∀ (n c i : Nat) (st : List Value), a_rows n c i = true → c + n ≤ 6 → LwP J xs (i + 5 * n) (sL j) ((argsOf xs j n c).reverse ++ st) h → LwP J xs i (sL j) st h := by
  intro n
  induction n with
  | zero => intro c i st _ _ k; exact k
  | succ n ih =>
    intro c i st hr hn k
    obtain ⟨r1, hr⟩ := b_and hr
    obtain ⟨r2, hr⟩ := b_and hr
    obtain ⟨r3, hr⟩ := b_and hr
    obtain ⟨r4, hr⟩ := b_and hr
    obtain ⟨r5, hr⟩ := b_and hr
    have ec : (Int32.ofInt (c : Int)).toInt = (c : Int) := Int32.toInt_ofInt_of_le (by omega) (by omega)
    have ej : (j + Int32.ofInt (c : Int)).toInt = j.toInt + c := (i32_add (by omega) (by omega)).trans (by omega)
    have hok : m_ok (j + Int32.ofInt (c : Int)) xs.length = true := z_ok (by omega) (by omega)
    refine LwP.I r1 (fun _ => rfl) ?_
    refine LwP.I r2 (fun _ => rfl) ?_
    refine LwP.I r3 (fun _ => rfl) ?_
    refine LwP.I r4 (fun _ => rfl) ?_
    refine LwP.I (i1 := i + 5) (L1 := sL j) (st1 := .int (sx xs j c) :: st) (h1 := h) r5 (fun ops => ?_) ?_
    · show (bif true && (0 == 0 && m_ok (j + Int32.ofInt (c : Int)) xs.length) then _ else _) = _
      rw [hok]
      rfl
    · refine ih (c + 1) (i + 5) _ hr (by omega) ?_
      have e1 : i + 5 + 5 * n = i + 5 * (n + 1) := by omega
      have e2 : (argsOf xs j n (c + 1)).reverse ++ .int (sx xs j c) :: st = (argsOf xs j (n + 1) c).reverse ++ st := by
        show _ = (Value.int (sx xs j c) :: argsOf xs j n (c + 1)).reverse ++ st
        simp
      rw [e1, e2]
      exact k
def caseP (R n y1 y2 : Nat) (p : Instr) : Bool := isI R (.aload_n 1) && (a_rows n 1 (R + 1) && (isC (R + 1 + 5 * n) y1 n 6 && (isI (R + 2 + 5 * n) p && (isI (R + 3 + 5 * n) (.aload_n 2) && (a_rows n 1 (R + 4 + 5 * n) && (isC (R + 4 + 10 * n) y2 n 7 && (isI (R + 5 + 10 * n) p && isG (R + 6 + 10 * n) 871)))))))
theorem case_pop {R n y1 y2 : Nat} (j1 : 0 ≤ j.toInt) (j2 : j.toInt + 6 ≤ (xs.length : Int)) (hx : xs.length ≤ 3072) (hc : caseP R n y1 y2 .pop = true) (hn : n ≤ 5) (p : PairOK J TA y1 y2 (argsOf xs j n 1) h) (k : ∀ h2, J h2 → LwP J xs 871 (sL j) [] h2) : LwP J xs R (sL j) [] h := by
  obtain ⟨c1, hc⟩ := b_and hc
  obtain ⟨c2, hc⟩ := b_and hc
  obtain ⟨c3, hc⟩ := b_and hc
  obtain ⟨c4, hc⟩ := b_and hc
  obtain ⟨c5, hc⟩ := b_and hc
  obtain ⟨c6, hc⟩ := b_and hc
  obtain ⟨c7, hc⟩ := b_and hc
  obtain ⟨c8, c9⟩ := b_and hc
  obtain ⟨M1, M2, r, h1, r2, h2, p1, p2, p3, p4, ⟨vs, p5⟩, ⟨ws, p6⟩, p7, p8, ⟨⟨v, rfl⟩, ⟨w, rfl⟩⟩, p9⟩ := p
  refine LwP.I c1 (fun _ => rfl) ?_
  refine LwP.args j1 j2 hx n 1 (R + 1) _ c2 (by omega) ?_
  refine LwP.C (rest := []) c3 p5 (argsOf_len xs j n 1) rfl p1 p3 p7 ?_
  rw [show R + 1 + 5 * n + 1 = R + 2 + 5 * n by omega]
  refine LwP.I (st1 := []) (L1 := sL j) (h1 := h1) c4 (fun _ => rfl) ?_
  rw [show R + 2 + 5 * n + 1 = R + 3 + 5 * n by omega]
  refine LwP.I c5 (fun _ => rfl) ?_
  rw [show R + 3 + 5 * n + 1 = R + 4 + 5 * n by omega]
  refine LwP.args j1 j2 hx n 1 (R + 4 + 5 * n) _ c6 (by omega) ?_
  rw [show R + 4 + 5 * n + 5 * n = R + 4 + 10 * n by omega]
  refine LwP.C (rest := []) c7 p6 (argsOf_len xs j n 1) rfl p2 p4 p8 ?_
  rw [show R + 4 + 10 * n + 1 = R + 5 + 10 * n by omega]
  refine LwP.I (st1 := []) (L1 := sL j) (h1 := h2) c8 (fun _ => rfl) ?_
  rw [show R + 5 + 10 * n + 1 = R + 6 + 10 * n by omega]
  exact LwP.G c9 (k h2 p9)
theorem case_pop2 {R n y1 y2 : Nat} (j1 : 0 ≤ j.toInt) (j2 : j.toInt + 6 ≤ (xs.length : Int)) (hx : xs.length ≤ 3072) (hc : caseP R n y1 y2 .pop2 = true) (hn : n ≤ 5) (p : PairOK J TL y1 y2 (argsOf xs j n 1) h) (k : ∀ h2, J h2 → LwP J xs 871 (sL j) [] h2) : LwP J xs R (sL j) [] h := by
  obtain ⟨c1, hc⟩ := b_and hc
  obtain ⟨c2, hc⟩ := b_and hc
  obtain ⟨c3, hc⟩ := b_and hc
  obtain ⟨c4, hc⟩ := b_and hc
  obtain ⟨c5, hc⟩ := b_and hc
  obtain ⟨c6, hc⟩ := b_and hc
  obtain ⟨c7, hc⟩ := b_and hc
  obtain ⟨c8, c9⟩ := b_and hc
  obtain ⟨M1, M2, r, h1, r2, h2, p1, p2, p3, p4, ⟨vs, p5⟩, ⟨ws, p6⟩, p7, p8, ⟨⟨v, rfl⟩, ⟨w, rfl⟩⟩, p9⟩ := p
  refine LwP.I c1 (fun _ => rfl) ?_
  refine LwP.args j1 j2 hx n 1 (R + 1) _ c2 (by omega) ?_
  refine LwP.C (rest := []) c3 p5 (argsOf_len xs j n 1) rfl p1 p3 p7 ?_
  rw [show R + 1 + 5 * n + 1 = R + 2 + 5 * n by omega]
  refine LwP.I (st1 := []) (L1 := sL j) (h1 := h1) c4 (fun _ => rfl) ?_
  rw [show R + 2 + 5 * n + 1 = R + 3 + 5 * n by omega]
  refine LwP.I c5 (fun _ => rfl) ?_
  rw [show R + 3 + 5 * n + 1 = R + 4 + 5 * n by omega]
  refine LwP.args j1 j2 hx n 1 (R + 4 + 5 * n) _ c6 (by omega) ?_
  rw [show R + 4 + 5 * n + 5 * n = R + 4 + 10 * n by omega]
  refine LwP.C (rest := []) c7 p6 (argsOf_len xs j n 1) rfl p2 p4 p8 ?_
  rw [show R + 4 + 10 * n + 1 = R + 5 + 10 * n by omega]
  refine LwP.I (st1 := []) (L1 := sL j) (h1 := h2) c8 (fun _ => rfl) ?_
  rw [show R + 5 + 10 * n + 1 = R + 6 + 10 * n by omega]
  exact LwP.G c9 (k h2 p9)
def caseC (R n y1 y2 : Nat) : Bool := isI R (.aload_n 1) && (a_rows n 1 (R + 1) && (isC (R + 1 + 5 * n) y1 n 6 && (isI (R + 2 + 5 * n) (.aload_n 2) && (a_rows n 1 (R + 3 + 5 * n) && (isC (R + 3 + 10 * n) y2 n 7 && isQ (R + 4 + 10 * n) .eq 871)))))
theorem case_eq {R n y1 y2 : Nat} (j1 : 0 ≤ j.toInt) (j2 : j.toInt + 6 ≤ (xs.length : Int)) (hx : xs.length ≤ 3072) (hc : caseC R n y1 y2 = true) (hn : n ≤ 5) (p : PairOK J TE y1 y2 (argsOf xs j n 1) h) (k : ∀ h2, J h2 → LwP J xs 871 (sL j) [] h2) : LwP J xs R (sL j) [] h := by
  obtain ⟨c1, hc⟩ := b_and hc
  obtain ⟨c2, hc⟩ := b_and hc
  obtain ⟨c3, hc⟩ := b_and hc
  obtain ⟨c4, hc⟩ := b_and hc
  obtain ⟨c5, hc⟩ := b_and hc
  obtain ⟨c6, c7⟩ := b_and hc
  obtain ⟨M1, M2, r, h1, r2, h2, p1, p2, p3, p4, ⟨vs, p5⟩, ⟨ws, p6⟩, p7, p8, ⟨v, rfl, rfl⟩, p9⟩ := p
  refine LwP.I c1 (fun _ => rfl) ?_
  refine LwP.args j1 j2 hx n 1 (R + 1) _ c2 (by omega) ?_
  refine LwP.C (rest := []) c3 p5 (argsOf_len xs j n 1) rfl p1 p3 p7 ?_
  rw [show R + 1 + 5 * n + 1 = R + 2 + 5 * n by omega]
  refine LwP.I c4 (fun _ => rfl) ?_
  rw [show R + 2 + 5 * n + 1 = R + 3 + 5 * n by omega]
  refine LwP.args j1 j2 hx n 1 (R + 3 + 5 * n) _ c5 (by omega) ?_
  rw [show R + 3 + 5 * n + 5 * n = R + 3 + 10 * n by omega]
  refine LwP.C (rest := [.int v]) c6 p6 (argsOf_len xs j n 1) rfl p2 p4 p8 ?_
  rw [show R + 3 + 10 * n + 1 = R + 4 + 10 * n by omega]
  refine LwP.Q (x := v) (y := v) c7 (fun _ => k h2 p9) (fun c => ?_)
  have : m_cmp .eq v v = true := decide_eq_true rfl
  rw [this] at c
  cases c
def lawSw : List Int := [871, 22, 49, 66, 83, 100, 127, 154, 181, 218, 225, 242, 269, 296, 323, 330, 347, 364, 371, 378, 395, 422, 449, 466, 493, 500, 507, 534, 551, 588, 625, 662, 679, 726, 763, 820, 847, 864]
theorem law_loop (hx : xs.length ≤ 3072) (hstep : ∀ (j : Int32) (h : MH), J h → 0 ≤ j.toInt → j.toInt + 6 ≤ (xs.length : Int) → (∀ h2, J h2 → LwP J xs 871 (sL j) [] h2) → ∀ q, q < 37 → LwP J xs (m_n lawSw (q + 1)) (sL j) [] h) : ∀ (N : Nat) (j : Int32) (h : MH), J h → 0 ≤ j.toInt → j.toInt ≤ 3072 → 3072 - j.toInt < N → LwP J xs 10 (sL j) [] h := by
  intro N
  induction N with
  | zero => intro j h _ _ _ q; exact absurd q (by omega)
  | succ N ih =>
    intro j h hJ j1 j2 hN
    have en : (Int32.ofNat xs.length).toInt = (xs.length : Int) := Int32.toInt_ofNat_of_lt (by omega)
    have z6 : (Int8.ofInt 6).toInt32.toInt = 6 := by decide
    have e6 : (Int32.ofNat xs.length - (Int8.ofInt 6).toInt32).toInt = (xs.length : Int) - 6 := (i32_sub (by omega) (by omega)).trans (by omega)
    refine LwP.I (i := 10) (ins := .iload_n 3) (by decide +kernel) (fun _ => rfl) ?_
    refine LwP.I (ins := .aload_n 0) (by decide +kernel) (fun _ => rfl) ?_
    refine LwP.I (ins := .arraylength) (by decide +kernel) (fun _ => rfl) ?_
    refine LwP.I (ins := .bipush 6) (by decide +kernel) (fun _ => rfl) ?_
    refine LwP.I (ins := .isub) (by decide +kernel) (fun _ => rfl) ?_
    refine LwP.Q (c := .gt) (t := 873) (x := j) (y := Int32.ofNat xs.length - (Int8.ofInt 6).toInt32) (by decide +kernel) (fun _ => ?_) (fun c => ?_)
    · refine LwP.I (ins := .iconst 1) (by decide +kernel) (fun _ => rfl) ?_
      obtain ⟨pc, len, ops, hrow, e⟩ := isR_sp (show isR 874 = true by decide +kernel)
      refine ⟨h, Rn.ret ?_, hJ⟩
      unfold mstep
      rw [hrow]
      show o_ret (m_n ops 0) [.int 1] = _
      rw [e]
      rfl
    · have c1 := m_ff m_gt_iff c
      have j3 : j.toInt + 6 ≤ (xs.length : Int) := by omega
      have hok : m_ok j xs.length = true := z_ok j1 (by omega)
      refine LwP.I (ins := .aload_n 0) (by decide +kernel) (fun _ => rfl) ?_
      refine LwP.I (ins := .iload_n 3) (by decide +kernel) (fun _ => rfl) ?_
      refine LwP.I (i1 := 19) (L1 := sL j) (st1 := [.int (xs.getD j.toNatClampNeg 0)]) (h1 := h) (ins := .iaload) (by decide +kernel) (fun ops => ?_) ?_
      · show (bif true && (0 == 0 && m_ok j xs.length) then _ else _) = _
        rw [hok]
        rfl
      refine LwP.I (ins := .bipush 63) (by decide +kernel) (fun _ => rfl) ?_
      refine LwP.I (i1 := 21) (L1 := sL j) (st1 := [.int (xs.getD j.toNatClampNeg 0 &&& (Int8.ofInt 63).toInt32)]) (h1 := h) (ins := .iand) (by decide +kernel) (fun _ => rfl) ?_
      generalize (xs.getD j.toNatClampNeg 0 &&& (Int8.ofInt 63).toInt32) = v
      have k871 : ∀ h2, J h2 → LwP J xs 871 (sL j) [] h2 := by
        intro h2 g2
        have e7 : (j + Int32.ofInt 6).toInt = j.toInt + 6 := by
          have z : (Int32.ofInt 6).toInt = 6 := by decide
          exact (i32_add (by omega) (by omega)).trans (by omega)
        refine LwP.I (i1 := 872) (L1 := sL (j + Int32.ofInt 6)) (st1 := []) (h1 := h2) (ins := .iinc 3 6) (by decide +kernel) (fun _ => rfl) ?_
        refine LwP.G (t := 10) (by decide +kernel) ?_
        exact ih _ h2 g2 (by omega) (by omega) (by omega)
      obtain ⟨pc, d, offs, len, hrow⟩ := isS_sp (show isS 21 lawSw = true by decide +kernel)
      by_cases hv : v.toInt < 0 ∨ 36 < v.toInt
      · obtain ⟨q, k1, k2⟩ := k871 h hJ
        refine ⟨q, Rn.step (i1 := 871) (L1 := sL j) (st1 := []) (h1 := h) ?_ k1, k2⟩
        unfold mstep
        rw [hrow]
        show (if v.toInt < 0 ∨ 36 < v.toInt then _ else _) = _
        rw [if_pos hv]
        rfl
      · obtain ⟨q, k1, k2⟩ := hstep j h hJ j1 j3 k871 v.toInt.toNat (by omega)
        refine ⟨q, Rn.step (i1 := m_n lawSw (v.toInt.toNat + 1)) (L1 := sL j) (st1 := []) (h1 := h) ?_ k1, k2⟩
        unfold mstep
        rw [hrow]
        show (if v.toInt < 0 ∨ 36 < v.toInt then _ else some (Sum.inl (m_n lawSw ((v.toInt - 0).toNat + 1), sL j, [], h))) = _
        rw [if_neg hv, Int.sub_zero]
end LAWS
/-- the law from its entry: both objects made -/
theorem law_fresh {J : MH → Prop} {xs : List Int32} (k : LwP J xs 10 (sL 0) [] h0) : LwP J xs 0 (m_ent 4 [.float 0]) [] [] := by
  obtain ⟨q, k1, k2⟩ := k
  refine ⟨q, ?_, k2⟩
  have e : (h0.take 123).length = 123 := by decide +kernel
  refine Rn.step (i1 := 1) (L1 := m_ent 4 [.float 0]) (st1 := [.ref 0]) (h1 := [.inr (6, m_dfl.getD 6 [])]) rfl ?_
  refine Rn.step (i1 := 2) (L1 := m_ent 4 [.float 0]) (st1 := [.ref 0, .ref 0]) (h1 := [.inr (6, m_dfl.getD 6 [])]) rfl ?_
  refine Rn.call (M1 := m_X6_init) (y := 30) (as := [.ref 0]) (rest := [.ref 0]) rfl rfl rfl (Rn.of (isRun_ok fr_x)) ?_
  refine Rn.step (i1 := 4) (L1 := [some (.float 0), some (.ref 0), none, none]) (st1 := []) (h1 := h0.take 123) rfl ?_
  refine Rn.step (i1 := 5) (L1 := [some (.float 0), some (.ref 0), none, none]) (st1 := [.ref (h0.take 123).length]) (h1 := h0.take 123 ++ [.inr (7, m_dfl.getD 7 [])]) rfl ?_
  rw [e]
  refine Rn.step (i1 := 6) (L1 := [some (.float 0), some (.ref 0), none, none]) (st1 := [.ref 123, .ref 123]) (h1 := h0.take 123 ++ [.inr (7, m_dfl.getD 7 [])]) rfl ?_
  refine Rn.call (M1 := m_X7_init) (y := 91) (as := [.ref 123]) (rest := [.ref 123]) rfl rfl rfl (Rn.of (isRun_ok fr_m)) ?_
  refine Rn.step (i1 := 8) (L1 := [some (.float 0), some (.ref 0), some (.ref 123), none]) (st1 := []) (h1 := h0) rfl ?_
  refine Rn.step (i1 := 9) (L1 := [some (.float 0), some (.ref 0), some (.ref 123), none]) (st1 := [.int 0]) (h1 := h0) rfl ?_
  exact Rn.step (i1 := 10) (L1 := sL 0) (st1 := []) (h1 := h0) rfl k1
