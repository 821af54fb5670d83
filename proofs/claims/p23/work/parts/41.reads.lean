/-! read of both sides: it returns, keeps the ranges and the texts -/
theorem KP.tr {H : AH} {lo hi : Int} {h h1 h2 : MH} {r : Option Value} (g1 : gH H h1) (f1 : fH H h h1) (k : KP H lo hi h1 r h2) : KP H lo hi h r h2 := ⟨k.1, fH.tr g1 f1 k.2.1, k.2.2⟩
theorem KP.any {H : AH} {h h1 : MH} (g1 : gH H h1) (f1 : fH H h h1) (v : Int32) : KP H (-2147483648) 2147483647 h (some (.int v)) h1 := ⟨g1, f1, v, rfl, i32_ge v, i32_le v⟩
theorem i32_mulc {c x : Int32} {k : Int} (hc : c.toInt = k) (h1 : (-2147483648 : Int) ≤ k * x.toInt) (h2 : k * x.toInt ≤ 2147483647) : (c * x).toInt = k * x.toInt := by
  subst hc
  exact i32_mul h1 h2
theorem sh_ix {s : Int32} (h1 : 0 ≤ s.toInt) (h2 : s.toInt < 4) : m_ok s ([115, 117, 119, 121] : List Nat).length = true ∧ ([115, 117, 119, 121] : List Nat)[s.toNatClampNeg]? = some (115 + 2 * s.toNatClampNeg) ∧ s.toNatClampNeg < 4 := by
  have : s.toInt = 0 ∨ s.toInt = 1 ∨ s.toInt = 2 ∨ s.toInt = 3 := by omega
  rcases this with q | q | q | q
  · have e : s = 0 := Int32.toInt_inj.mp q
    subst e; decide
  · have e : s = 1 := Int32.toInt_inj.mp q
    subst e; decide
  · have e : s = 2 := Int32.toInt_inj.mp q
    subst e; decide
  · have e : s = 3 := Int32.toInt_inj.mp q
    subst e; decide
theorem sh_f (n : Nat) (hn : n < 4) : a_fd HCs 3 0 (115 + 2 * n) = some (.inl (116 + 2 * n)) ∧ a_fd HCs 3 1 (115 + 2 * n) = some (.inr (0, 1, false)) ∧ a_fd HCs 3 2 (115 + 2 * n) = some (.inr (-2147483648, 2147483647, false)) ∧ a_fd HCs 3 3 (115 + 2 * n) = some (.inr (0, 60, false)) ∧ HCs[116 + 2 * n]? = some (.inl (0, 60, -2147483648, 2147483647, false)) ∧ a_ob HCs 3 (115 + 2 * n) = true := by
  match n, hn with
  | 0, _ => exact ⟨rfl, rfl, rfl, rfl, rfl, rfl⟩
  | 1, _ => exact ⟨rfl, rfl, rfl, rfl, rfl, rfl⟩
  | 2, _ => exact ⟨rfl, rfl, rfl, rfl, rfl, rfl⟩
  | 3, _ => exact ⟨rfl, rfl, rfl, rfl, rfl, rfl⟩
theorem x_find (n : Int32) (h : MH) (gh : gH HCs h) : RP m_X6_find 0 (m_ent 2 [.ref 0, .int n]) [] h (fun r h1 => r = some (.int (-10 - n)) ∧ h1 = setF h 0 4 n) := by
  refine RP.step rfl ?_
  refine RP.step rfl ?_
  refine RP.putI (x := n) rfl gh rfl rfl ?_
  refine RP.step rfl ?_
  refine RP.step rfl ?_
  refine RP.step rfl ?_
  exact RP.ret rfl ⟨rfl, rfl⟩
theorem y_meets (n : Int32) (h : MH) (gh : gH HMs h) : RP m_X7_meets 0 (m_ent 2 [.ref 123, .int n]) [] h (fun r h1 => r = some (.int (-10 - n)) ∧ h1 = setF h 123 46 n) := by
  refine RP.step rfl ?_
  refine RP.step rfl ?_
  refine RP.putI (x := n) rfl gh rfl rfl ?_
  refine RP.step rfl ?_
  refine RP.step rfl ?_
  refine RP.step rfl ?_
  exact RP.ret rfl ⟨rfl, rfl⟩
section FND
variable {M : MM} {i : Nat} {L : ML} {st rest : List Value} {h : MH} {P : Option Value → MH → Prop} {v : Int32} {pc len : Nat} {ops : List Int} {idx : Nat}
theorem c_find (hrow : (mc M)[i]? = some (pc, .invokevirtual idx, len, ops)) (e0 : m_n ops 0 = 85) (e1 : m_n ops 1 = 1) (e2 : m_n ops 2 = 6) (hsm : m_small rest = true) (gh : gH HCs h) (k : gH HCs (setF h 0 4 v) → fH HCs h (setF h 0 4 v) → RP M (i + 1) L (.int (-10 - v) :: rest) (setF h 0 4 v) P) : RP M i L (.int v :: .ref 0 :: rest) h P := by
  obtain ⟨vs, hx⟩ := ob_sp (a := 0) (ci := 6) gh rfl
  have hs := cv_step (fl := false) (xs := []) (L := L) (st := .int v :: .ref 0 :: rest) (a := 0) (as := [.int v]) hrow (by rw [e1]; rfl) (by rw [e2]; exact hx) (by rw [e1]; rfl) (by rw [e1]; exact hsm)
  rw [e0, e1] at hs
  refine RP.call (M1 := m_X6_find) hs rfl rfl (x_find v h gh) (fun r h1 q => ?_)
  obtain ⟨rfl, rfl⟩ := q
  obtain ⟨g1, f1⟩ := setF_s (x := v) gh (show a_fd HCs 6 4 0 = some (.inr (-2147483648, 2147483647, false)) from rfl) (i32_ge _) (i32_le _)
  exact k g1 f1
theorem c_meets (hrow : (mc M)[i]? = some (pc, .invokevirtual idx, len, ops)) (e0 : m_n ops 0 = 170) (e1 : m_n ops 1 = 1) (e2 : m_n ops 2 = 7) (hsm : m_small rest = true) (gh : gH HMs h) (k : gH HMs (setF h 123 46 v) → fH HMs h (setF h 123 46 v) → RP M (i + 1) L (.int (-10 - v) :: rest) (setF h 123 46 v) P) : RP M i L (.int v :: .ref 123 :: rest) h P := by
  obtain ⟨vs, hx⟩ := ob_sp (a := 123) (ci := 7) gh rfl
  have hs := cv_step (fl := false) (xs := []) (L := L) (st := .int v :: .ref 123 :: rest) (a := 123) (as := [.int v]) hrow (by rw [e1]; rfl) (by rw [e2]; exact hx) (by rw [e1]; rfl) (by rw [e1]; exact hsm)
  rw [e0, e1] at hs
  refine RP.call (M1 := m_X7_meets) hs rfl rfl (y_meets v h gh) (fun r h1 q => ?_)
  obtain ⟨rfl, rfl⟩ := q
  obtain ⟨g1, f1⟩ := setF_s (x := v) gh (show a_fd HMs 7 46 123 = some (.inr (-2147483648, 2147483647, false)) from rfl) (i32_ge _) (i32_le _)
  exact k g1 f1
end FND
theorem x_read_l (s : Int32) (q : Nat) (hq : q < 4) : ∀ (N : Nat) (n i : Int32) (h : MH), gH HCs h → 0 ≤ i.toInt → i.toInt ≤ 60 → 60 - i.toInt < N → RP m_X6_read 22 [some (.ref 0), some (.int s), some (.ref (115 + 2 * q)), some (.int n), some (.int i)] [] h (KP HCs (-2147483648) 2147483647 h) := by
  obtain ⟨s0, s1, s2, s3, s4, s5⟩ := sh_f q hq
  have z1 : (1 : Int32).toInt = 1 := by decide
  have z2 : (2 : Int32).toInt = 2 := by decide
  have z3 : (3 : Int32).toInt = 3 := by decide
  intro N
  induction N with
  | zero => intro n i h _ _ _ q; exact absurd q (by omega)
  | succ N ih =>
    intro n i h gh i1 i2 hN
    have e2 : (i + 2).toInt = i.toInt + 2 := (i32_add (by omega) (by omega)).trans (by omega)
    have e1 : (i + 1).toInt = i.toInt + 1 := (i32_add (by omega) (by omega)).trans (by omega)
    refine RP.step rfl ?_
    refine RP.step rfl ?_
    refine RP.step rfl ?_
    refine RP.step rfl ?_
    refine RP.getI rfl gh s3 (fun f1 f2 => ?_)
    refine RP.icmp (x := i + 2) (y := fI h (115 + 2 * q) 3) rfl (fun c => RP.step rfl (RP.ret rfl (KP.any gh (fH.rf _ _) n))) (fun c => ?_)
    have c1 := m_ff m_ge_iff c
    have c2 : i.toInt + 2 < 60 := by
      have f2 : (fI h (115 + 2 * q) 3).toInt ≤ 60 := f2
      omega
    refine RP.step rfl ?_
    refine RP.step rfl ?_
    refine RP.getR rfl gh s0 ?_
    refine RP.step rfl ?_
    refine RP.ald (t := 0) (j := i) rfl (Or.inl rfl) gh s4 i1 (by show _ < ((60 : Nat) : Int); omega) (fun _ _ => ?_)
    refine RP.step rfl ?_
    refine RP.getR rfl gh s0 ?_
    refine RP.step rfl ?_
    refine RP.step rfl ?_
    refine RP.step rfl ?_
    refine RP.ald (t := 0) (j := i + 1) rfl (Or.inl rfl) gh s4 (by omega) (by show _ < ((60 : Nat) : Int); omega) (fun _ _ => ?_)
    refine RP.step rfl ?_
    refine RP.getR rfl gh s0 ?_
    refine RP.step rfl ?_
    refine RP.step rfl ?_
    refine RP.step rfl ?_
    refine RP.ald (t := 0) (j := i + 2) rfl (Or.inl rfl) gh s4 (by omega) (by show _ < ((60 : Nat) : Int); omega) (fun _ _ => ?_)
    obtain ⟨vs, hx⟩ := ob_sp (a := 0) (ci := 6) gh rfl
    refine RP.call (M1 := m_X6_event) (cv_step rfl rfl hx rfl rfl) rfl rfl (x_event _ _ _ h gh) (fun r h1 k => ?_)
    obtain ⟨g1, t1, v, rfl, v1, v2⟩ := k
    refine RP.ifc (x := v) rfl (fun c => ?_) (fun c => RP.step rfl (RP.step rfl (RP.ret rfl (KP.any g1 t1 n))))
    have e3 : (i + 3).toInt = i.toInt + 3 := (i32_add (by omega) (by omega)).trans (by omega)
    refine RP.step (L1 := [some (.ref 0), some (.int s), some (.ref (115 + 2 * q)), some (.int (n + 1)), some (.int i)]) rfl ?_
    refine RP.step (L1 := [some (.ref 0), some (.int s), some (.ref (115 + 2 * q)), some (.int (n + 1)), some (.int (i + 3))]) rfl ?_
    refine RP.step rfl ?_
    exact (ih (n + 1) (i + 3) h1 g1 (by omega) (by omega) (by omega)).mono (fun r h2 k => KP.tr g1 t1 k)
theorem x_read (s : Int32) (h : MH) (gh : gH HCs h) : RP m_X6_read 0 (m_ent 5 [.ref 0, .int s]) [] h (KP HCs (-2147483648) 2147483647 h) := by
  have z4 : (4 : Int32).toInt = 4 := by decide
  refine RP.step rfl ?_
  refine RP.step rfl ?_
  refine c_isBelow (v := s) (n := 4) rfl (fun a1 a2 => ?_) (fun q => RP.step rfl (RP.step rfl (RP.ret rfl (KP.any gh (fH.rf _ _) (-2)))))
  rw [z4] at a2
  obtain ⟨b1, b2, b3⟩ := sh_ix a1 a2
  obtain ⟨s0, s1, s2, s3, s4, s5⟩ := sh_f s.toNatClampNeg b3
  refine RP.step rfl ?_
  refine RP.step rfl ?_
  refine RP.getR rfl gh rfl ?_
  refine RP.step rfl ?_
  refine RP.aald rfl gh rfl rfl b1 b2 ?_
  refine RP.step (L1 := [some (.ref 0), some (.int s), some (.ref (115 + 2 * s.toNatClampNeg)), none, none]) rfl ?_
  refine RP.step rfl ?_
  refine RP.getI rfl gh s1 (fun f1 f2 => ?_)
  refine RP.ifc rfl (fun c => ?_) (fun c => ?_)
  · refine RP.step rfl ?_
    refine RP.step (L1 := [some (.ref 0), some (.int s), some (.ref (115 + 2 * s.toNatClampNeg)), some (.int 0), none]) rfl ?_
    refine RP.step rfl ?_
    refine RP.step (L1 := [some (.ref 0), some (.int s), some (.ref (115 + 2 * s.toNatClampNeg)), some (.int 0), some (.int 0)]) rfl ?_
    exact x_read_l s s.toNatClampNeg b3 61 0 0 h gh (by decide) (by decide) (by decide)
  · refine RP.step rfl ?_
    refine RP.step rfl ?_
    refine c_find (v := 1) rfl rfl rfl rfl rfl gh (fun g1 t1 => ?_)
    exact RP.ret rfl (KP.any g1 t1 _)
theorem y_read_l (s b : Int32) (b1 : 0 ≤ b.toInt) (b2 : b.toInt ≤ 180) (hs1 : 0 ≤ s.toInt) (hs2 : s.toInt ≤ 3) : ∀ (N : Nat) (n : Int32) (h : MH), gH HMs h → 0 ≤ n.toInt → n.toInt ≤ 20 → 20 - n.toInt < N → RP m_X7_read 20 [some (.ref 123), some (.int s), some (.int n), some (.int b)] [] h (KP HMs (-2147483648) 2147483647 h) := by
  have z1 : (1 : Int32).toInt = 1 := by decide
  have z2 : (2 : Int32).toInt = 2 := by decide
  have z3 : (3 : Int32).toInt = 3 := by decide
  intro N
  induction N with
  | zero => intro n h _ _ _ q; exact absurd q (by omega)
  | succ N ih =>
    intro n h gh i1 i2 hN
    have e3 : (3 * n).toInt = 3 * n.toInt := i32_mulc z3 (by omega) (by omega)
    have e2 : (3 * n + 2).toInt = 3 * n.toInt + 2 := (i32_add (by omega) (by omega)).trans (by omega)
    refine RP.step rfl ?_
    refine RP.step rfl ?_
    refine RP.step rfl ?_
    refine RP.step rfl ?_
    refine RP.step rfl ?_
    refine RP.step rfl ?_
    refine RP.getR rfl gh rfl ?_
    refine RP.step rfl ?_
    refine RP.ald (t := 0) (j := s) rfl (Or.inl rfl) gh (show HMs[150]? = some (.inl (0, 4, 0, 60, false)) from rfl) hs1 (by show _ < ((4 : Nat) : Int); omega) (fun f1 f2 => ?_)
    refine RP.icmp (x := 3 * n + 2) (y := aI h 150 s.toNatClampNeg) rfl (fun c => RP.step rfl (RP.ret rfl (KP.any gh (fH.rf _ _) n))) (fun c => ?_)
    have c1 := m_ff m_ge_iff c
    have c2 : 3 * n.toInt + 2 < 60 := by
      have f2 : (aI h 150 s.toNatClampNeg).toInt ≤ 60 := f2
      omega
    have e4 : (b + 3 * n).toInt = b.toInt + 3 * n.toInt := (i32_add (by omega) (by omega)).trans (by omega)
    have e5 : (b + 3 * n + 1).toInt = b.toInt + 3 * n.toInt + 1 := (i32_add (by omega) (by omega)).trans (by omega)
    have e6 : (b + 3 * n + 2).toInt = b.toInt + 3 * n.toInt + 2 := (i32_add (by omega) (by omega)).trans (by omega)
    have s4 : HMs[151]? = some (.inl (0, 240, -2147483648, 2147483647, false)) := rfl
    refine RP.step rfl ?_
    refine RP.step rfl ?_
    refine RP.getR rfl gh rfl ?_
    refine RP.step rfl ?_
    refine RP.step rfl ?_
    refine RP.step rfl ?_
    refine RP.step rfl ?_
    refine RP.step rfl ?_
    refine RP.ald (t := 0) (j := b + 3 * n) rfl (Or.inl rfl) gh s4 (by omega) (by show _ < ((240 : Nat) : Int); omega) (fun _ _ => ?_)
    refine RP.step rfl ?_
    refine RP.getR rfl gh rfl ?_
    refine RP.step rfl ?_
    refine RP.step rfl ?_
    refine RP.step rfl ?_
    refine RP.step rfl ?_
    refine RP.step rfl ?_
    refine RP.step rfl ?_
    refine RP.step rfl ?_
    refine RP.ald (t := 0) (j := b + 3 * n + 1) rfl (Or.inl rfl) gh s4 (by omega) (by show _ < ((240 : Nat) : Int); omega) (fun _ _ => ?_)
    refine RP.step rfl ?_
    refine RP.getR rfl gh rfl ?_
    refine RP.step rfl ?_
    refine RP.step rfl ?_
    refine RP.step rfl ?_
    refine RP.step rfl ?_
    refine RP.step rfl ?_
    refine RP.step rfl ?_
    refine RP.step rfl ?_
    refine RP.ald (t := 0) (j := b + 3 * n + 2) rfl (Or.inl rfl) gh s4 (by omega) (by show _ < ((240 : Nat) : Int); omega) (fun _ _ => ?_)
    obtain ⟨vs, hx⟩ := ob_sp (a := 123) (ci := 7) gh rfl
    refine RP.call (M1 := m_X7_event) (cv_step rfl rfl hx rfl rfl) rfl rfl (y_event _ _ _ h gh) (fun r h1 k => ?_)
    obtain ⟨g1, t1, v, rfl, v1, v2⟩ := k
    refine RP.ifc (x := v) rfl (fun c => RP.step rfl (RP.ret rfl (KP.any g1 t1 n))) (fun c => ?_)
    have e7 : (n + 1).toInt = n.toInt + 1 := (i32_add (by omega) (by omega)).trans (by omega)
    refine RP.step (L1 := [some (.ref 123), some (.int s), some (.int (n + 1)), some (.int b)]) rfl ?_
    refine RP.step rfl ?_
    exact (ih (n + 1) h1 g1 (by omega) (by omega) (by omega)).mono (fun r h2 k => KP.tr g1 t1 k)
theorem y_read (s : Int32) (h : MH) (gh : gH HMs h) : RP m_X7_read 0 (m_ent 4 [.ref 123, .int s]) [] h (KP HMs (-2147483648) 2147483647 h) := by
  have z6 : (60 : Int32).toInt = 60 := by decide
  refine RP.step rfl ?_
  refine c_isSheet (v := s) rfl (fun a1 a2 => ?_) (fun q => RP.step rfl (RP.step rfl (RP.ret rfl (KP.any gh (fH.rf _ _) (-2)))))
  have e6 : (60 * s).toInt = 60 * s.toInt := i32_mulc z6 (by omega) (by omega)
  refine RP.step rfl ?_
  refine RP.step rfl ?_
  refine RP.getR rfl gh rfl ?_
  refine RP.step rfl ?_
  refine RP.ald (t := 1) (j := s) rfl (Or.inr rfl) gh (show HMs[148]? = some (.inl (1, 4, 0, 1, false)) from rfl) a1 (by show _ < ((4 : Nat) : Int); omega) (fun f1 f2 => ?_)
  refine RP.ifc rfl (fun c => ?_) (fun c => ?_)
  · refine RP.step rfl ?_
    refine RP.step (L1 := [some (.ref 123), some (.int s), some (.int 0), none]) rfl ?_
    refine RP.step rfl ?_
    refine RP.step rfl ?_
    refine RP.step rfl ?_
    refine RP.step (L1 := [some (.ref 123), some (.int s), some (.int 0), some (.int (60 * s))]) rfl ?_
    exact y_read_l s (60 * s) (by omega) (by omega) a1 a2 21 0 h gh (by decide) (by decide) (by decide)
  · refine RP.step rfl ?_
    refine RP.step rfl ?_
    refine c_meets (v := 1) rfl rfl rfl rfl rfl gh (fun g1 t1 => ?_)
    exact RP.ret rfl (KP.any g1 t1 _)
