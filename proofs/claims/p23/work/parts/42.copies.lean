/-! copy of both sides: it returns, keeps the ranges and the texts -/
theorem nat_cl {x : Int32} (h : 0 ≤ x.toInt) : (x.toNatClampNeg : Int) = x.toInt := Int.toNat_of_nonneg h
theorem lgc_gt {x y : Int64} : m_cmp .gt (lg_cmp x y) 0 = true ↔ y.toInt < x.toInt := by
  unfold lg_cmp
  split
  · rename_i h
    exact ⟨fun _ => Int64.lt_iff_toInt_lt.mp h, fun _ => by decide⟩
  · rename_i h
    have h1 : ¬ y.toInt < x.toInt := fun q => h (Int64.lt_iff_toInt_lt.mpr q)
    split
    · exact ⟨fun q => absurd q (by decide), fun q => absurd q h1⟩
    · exact ⟨fun q => absurd q (by decide), fun q => absurd q h1⟩
theorem lgc_le {x y : Int64} : m_cmp .le (lg_cmp x y) 0 = true ↔ x.toInt ≤ y.toInt := by
  unfold lg_cmp
  split
  · rename_i h
    have := Int64.lt_iff_toInt_lt.mp h
    exact ⟨fun q => absurd q (by decide), fun q => by omega⟩
  · rename_i h
    have h1 : ¬ y.toInt < x.toInt := fun q => h (Int64.lt_iff_toInt_lt.mpr q)
    split
    · exact ⟨fun _ => by omega, fun _ => by decide⟩
    · exact ⟨fun _ => by omega, fun _ => by decide⟩
theorem i64_sum (a b : Int32) : (a.toInt64 + b.toInt64).toInt = a.toInt + b.toInt := by
  rw [Int64.toInt_add, Int32.toInt_toInt64, Int32.toInt_toInt64]
  have h1 := i32_ge a
  have h2 := i32_le a
  have h3 := i32_ge b
  have h4 := i32_le b
  exact Int.bmod_eq_of_le (by omega) (by omega)
section CPY
variable {M : MM} {i : Nat} {L : ML} {st : List Value} {h : MH} {P : Option Value → MH → Prop} {pc len : Nat} {ops : List Int} {idx : Nat} {H : AH}
theorem RP.cpy {a0 a1 n0 n1 : Nat} {lo hi : Int} {fz : Bool} {sp dp n : Int32} (hrow : (mc M)[i]? = some (pc, .invokestatic idx, len, ops)) (e0 : m_n ops 0 = 2) (gh : gH H h) (hf0 : H[a0]? = some (.inl (0, n0, lo, hi, fz))) (hf1 : H[a1]? = some (.inl (0, n1, -2147483648, 2147483647, false))) (s1 : 0 ≤ sp.toInt) (d1 : 0 ≤ dp.toInt) (n1' : 0 ≤ n.toInt) (s2 : sp.toInt + n.toInt ≤ (n0 : Int)) (d2 : dp.toInt + n.toInt ≤ (n1 : Int)) (hsm : m_small st = true) (k : ∀ h1, gH H h1 → fH H h h1 → (∀ b, b ≠ a1 → h1[b]? = h[b]?) → RP M (i + 1) L st h1 P) : RP M i L (.int n :: .int dp :: .ref a1 :: .int sp :: .ref a0 :: st) h P := by
  obtain ⟨x, hx, f, rfl, hlf, -⟩ := gh.2 a0 _ hf0
  obtain ⟨y, hy, g, rfl, hlg, -⟩ := gh.2 a1 _ hf1
  have z0 : (0 : Int32).toInt = 0 := by decide
  have q1 : decide (sp < 0) = false := decide_eq_false (fun q => by have := Int32.lt_iff_toInt_lt.mp q; omega)
  have q2 : decide (dp < 0) = false := decide_eq_false (fun q => by have := Int32.lt_iff_toInt_lt.mp q; omega)
  have q3 : decide (n < 0) = false := decide_eq_false (fun q => by have := Int32.lt_iff_toInt_lt.mp q; omega)
  have c1 := nat_cl s1
  have c2 := nat_cl d1
  have c3 := nat_cl n1'
  have q4 : decide (sp.toNatClampNeg + n.toNatClampNeg ≤ f.length) = true := decide_eq_true (by omega)
  have q5 : decide (dp.toNatClampNeg + n.toNatClampNeg ≤ g.length) = true := decide_eq_true (by omega)
  have hlen : (m_cpy f g sp.toNatClampNeg dp.toNatClampNeg n.toNatClampNeg).length = n1 := by
    unfold m_cpy
    simp only [List.length_append, List.length_take, List.length_drop]
    omega
  obtain ⟨g1, t1⟩ := gh.set hf1 hy (y := .inl (0, .inl (m_cpy f g sp.toNatClampNeg dp.toNatClampNeg n.toNatClampNeg))) ⟨_, rfl, hlen, fun z _ => ⟨i32_ge z, i32_le z⟩⟩ (fun q => by cases q)
  refine RP.step ?_ (k _ g1 t1 (fun b hb => List.getElem?_set_ne (Ne.symm hb)))
  unfold mstep
  rw [hrow]
  show mexec false [] (.invokestatic idx) ops i L _ h = _
  unfold mexec
  rw [e0]
  show o_cpy i L _ h = _
  simp only [o_cpy, hx, hy]
  rw [q1, q2, q3, q4, q5, hsm]
  rfl
theorem x_hasRange (q : Nat) (hq : q < 4) (j n : Int32) (h : MH) (gh : gH HCs h) : RP m_X3_hasRange 0 (m_ent 3 [.ref (115 + 2 * q), .int j, .int n]) [] h (fun r h1 => h1 = h ∧ ((0 ≤ j.toInt ∧ 0 ≤ n.toInt ∧ j.toInt + n.toInt ≤ (fI h (115 + 2 * q) 3).toInt ∧ r = some (.int 1)) ∨ (¬ (0 ≤ j.toInt ∧ 0 ≤ n.toInt ∧ j.toInt + n.toInt ≤ (fI h (115 + 2 * q) 3).toInt) ∧ r = some (.int 0)))) := by
  obtain ⟨s0, s1, s2, s3, s4, s5⟩ := sh_f q hq
  refine RP.step rfl ?_
  refine RP.ifc rfl (fun c => ?_) (fun c => ?_)
  · have := m_lt0.mp c
    refine RP.step rfl ?_
    exact RP.ret rfl ⟨rfl, Or.inr ⟨by omega, rfl⟩⟩
  have c1 := m_ff m_lt0 c
  refine RP.step rfl ?_
  refine RP.ifc rfl (fun c => ?_) (fun c => ?_)
  · have := m_lt0.mp c
    refine RP.step rfl ?_
    exact RP.ret rfl ⟨rfl, Or.inr ⟨by omega, rfl⟩⟩
  have c2 := m_ff m_lt0 c
  refine RP.step rfl ?_
  refine RP.step rfl ?_
  refine RP.getI rfl gh s3 (fun f1 f2 => ?_)
  have f1 : 0 ≤ (fI h (115 + 2 * q) 3).toInt := f1
  have f2 : (fI h (115 + 2 * q) 3).toInt ≤ 60 := f2
  have n2 := i32_le n
  have e : (fI h (115 + 2 * q) 3 - n).toInt = (fI h (115 + 2 * q) 3).toInt - n.toInt := i32_sub (by omega) (by omega)
  refine RP.step rfl ?_
  refine RP.step rfl ?_
  refine RP.icmp (x := j) (y := fI h (115 + 2 * q) 3 - n) rfl (fun c => ?_) (fun c => ?_)
  · have := m_gt_iff.mp c
    refine RP.step rfl ?_
    exact RP.ret rfl ⟨rfl, Or.inr ⟨by omega, rfl⟩⟩
  · have := m_ff m_gt_iff c
    refine RP.step rfl ?_
    refine RP.step rfl ?_
    exact RP.ret rfl ⟨rfl, Or.inl ⟨by omega, by omega, by omega, rfl⟩⟩
theorem c_hasRange {q : Nat} {j n : Int32} {rest : List Value} (hrow : (mc M)[i]? = some (pc, .invokevirtual idx, len, ops)) (e0 : m_n ops 0 = 13) (e1 : m_n ops 1 = 2) (e2 : m_n ops 2 = 3) (hsm : m_small rest = true) (gh : gH HCs h) (hq : q < 4) (kt : 0 ≤ j.toInt → 0 ≤ n.toInt → j.toInt + n.toInt ≤ (fI h (115 + 2 * q) 3).toInt → RP M (i + 1) L (.int 1 :: rest) h P) (kf : ¬ (0 ≤ j.toInt ∧ 0 ≤ n.toInt ∧ j.toInt + n.toInt ≤ (fI h (115 + 2 * q) 3).toInt) → RP M (i + 1) L (.int 0 :: rest) h P) : RP M i L (.int n :: .int j :: .ref (115 + 2 * q) :: rest) h P := by
  obtain ⟨s0, s1, s2, s3, s4, s5⟩ := sh_f q hq
  obtain ⟨vs, hx⟩ := ob_sp gh s5
  have hs := cv_step (fl := false) (xs := []) (L := L) (st := .int n :: .int j :: .ref (115 + 2 * q) :: rest) (a := 115 + 2 * q) (as := [.int j, .int n]) hrow (by rw [e1]; rfl) (by rw [e2]; exact hx) (by rw [e1]; rfl) (by rw [e1]; exact hsm)
  rw [e0, e1] at hs
  refine RP.call (M1 := m_X3_hasRange) hs rfl rfl (x_hasRange q hq j n h gh) (fun r h1 q => ?_)
  obtain ⟨rfl, ⟨q1, q2, q3, rfl⟩ | ⟨q1, rfl⟩⟩ := q
  · exact kt q1 q2 q3
  · exact kf q1
end CPY
theorem x_copy (s i t j n : Int32) (h : MH) (gh : gH HCs h) : RP m_X6_copy 0 (m_ent 8 [.ref 0, .int s, .int i, .int t, .int j, .int n]) [] h (KP HCs (-2147483648) 2147483647 h) := by
  have z4 : (4 : Int32).toInt = 4 := by decide
  have bad : RP m_X6_copy 8 (m_ent 8 [.ref 0, .int s, .int i, .int t, .int j, .int n]) [] h (KP HCs (-2147483648) 2147483647 h) := RP.step rfl (RP.ret rfl (KP.any gh (fH.rf _ _) (-2)))
  refine RP.step rfl ?_
  refine RP.step rfl ?_
  refine c_isBelow (v := s) (n := 4) rfl (fun a1 a2 => ?_) (fun q => RP.step rfl bad)
  refine RP.step rfl ?_
  refine RP.step rfl ?_
  refine RP.step rfl ?_
  refine c_isBelow (v := t) (n := 4) rfl (fun u1 u2 => ?_) (fun q => RP.step rfl bad)
  rw [z4] at a2 u2
  obtain ⟨b1, b2, b3⟩ := sh_ix a1 a2
  obtain ⟨d1, d2, d3⟩ := sh_ix u1 u2
  obtain ⟨s0, s1, s2, s3, s4, s5⟩ := sh_f s.toNatClampNeg b3
  obtain ⟨t0, t1, t2, t3, t4, t5⟩ := sh_f t.toNatClampNeg d3
  refine RP.step rfl ?_
  refine RP.step rfl ?_
  refine RP.getR rfl gh rfl ?_
  refine RP.step rfl ?_
  refine RP.aald rfl gh rfl rfl b1 b2 ?_
  refine RP.step (L1 := [some (.ref 0), some (.int s), some (.int i), some (.int t), some (.int j), some (.int n), some (.ref (115 + 2 * s.toNatClampNeg)), none]) rfl ?_
  refine RP.step rfl ?_
  refine RP.getR rfl gh rfl ?_
  refine RP.step rfl ?_
  refine RP.aald rfl gh rfl rfl d1 d2 ?_
  refine RP.step (L1 := [some (.ref 0), some (.int s), some (.int i), some (.int t), some (.int j), some (.int n), some (.ref (115 + 2 * s.toNatClampNeg)), some (.ref (115 + 2 * t.toNatClampNeg))]) rfl ?_
  have lost : RP m_X6_copy 26 [some (.ref 0), some (.int s), some (.int i), some (.int t), some (.int j), some (.int n), some (.ref (115 + 2 * s.toNatClampNeg)), some (.ref (115 + 2 * t.toNatClampNeg))] [] h (KP HCs (-2147483648) 2147483647 h) := by
    refine RP.step rfl ?_
    refine RP.step rfl ?_
    refine c_find (v := 1) rfl rfl rfl rfl rfl gh (fun g1 t1 => ?_)
    exact RP.ret rfl (KP.any g1 t1 _)
  have form : RP m_X6_copy 35 [some (.ref 0), some (.int s), some (.int i), some (.int t), some (.int j), some (.int n), some (.ref (115 + 2 * s.toNatClampNeg)), some (.ref (115 + 2 * t.toNatClampNeg))] [] h (KP HCs (-2147483648) 2147483647 h) := by
    refine RP.step rfl ?_
    refine RP.step rfl ?_
    refine c_find (v := 4) rfl rfl rfl rfl rfl gh (fun g1 t1 => ?_)
    exact RP.ret rfl (KP.any g1 t1 _)
  have out : RP m_X6_copy 49 [some (.ref 0), some (.int s), some (.int i), some (.int t), some (.int j), some (.int n), some (.ref (115 + 2 * s.toNatClampNeg)), some (.ref (115 + 2 * t.toNatClampNeg))] [] h (KP HCs (-2147483648) 2147483647 h) := by
    refine RP.step rfl ?_
    refine RP.step rfl ?_
    refine c_find (v := 2) rfl rfl rfl rfl rfl gh (fun g1 t1 => ?_)
    exact RP.ret rfl (KP.any g1 t1 _)
  refine RP.step rfl ?_
  refine RP.getI rfl gh s1 (fun _ _ => ?_)
  refine RP.ifc rfl (fun c => lost) (fun c => ?_)
  refine RP.step rfl ?_
  refine RP.getI rfl gh t1 (fun _ _ => ?_)
  refine RP.ifc rfl (fun c => ?_) (fun c => lost)
  refine RP.step rfl ?_
  refine RP.getI rfl gh s2 (fun _ _ => ?_)
  refine RP.step rfl ?_
  refine RP.getI rfl gh t2 (fun _ _ => ?_)
  refine RP.icmp rfl (fun c => ?_) (fun c => form)
  refine RP.step rfl ?_
  refine RP.step rfl ?_
  refine RP.step rfl ?_
  obtain ⟨-, -, -, z1, z2⟩ := fI_sp gh s3
  obtain ⟨-, -, -, w1, w2⟩ := fI_sp gh t3
  refine c_hasRange rfl rfl rfl rfl rfl gh b3 (fun p1 p2 p3 => ?_) (fun c => RP.step rfl out)
  refine RP.step rfl ?_
  refine RP.step rfl ?_
  refine RP.step rfl ?_
  refine RP.step rfl ?_
  refine c_hasRange rfl rfl rfl rfl rfl gh d3 (fun p4 p5 p6 => ?_) (fun c => RP.step rfl out)
  refine RP.step rfl ?_
  refine RP.step rfl ?_
  refine RP.getR rfl gh s0 ?_
  refine RP.step rfl ?_
  refine RP.step rfl ?_
  refine RP.getR rfl gh t0 ?_
  refine RP.step rfl ?_
  refine RP.step rfl ?_
  refine RP.cpy rfl rfl gh s4 t4 p1 p4 p2 (by show _ ≤ ((60 : Nat) : Int); omega) (by show _ ≤ ((60 : Nat) : Int); omega) rfl (fun h1 g1 f1 _ => ?_)
  refine RP.step rfl ?_
  exact RP.ret rfl (KP.any g1 f1 1)
theorem y_copy_2 (s i t j n : Int32) (u1 : 0 ≤ t.toInt) (u2 : t.toInt ≤ 3) (j1 : 0 ≤ j.toInt) (n1 : 0 ≤ n.toInt) (n2 : n.toInt ≤ 60) (j2 : j.toInt + n.toInt ≤ 60) : ∀ (N : Nat) (k : Int32) (h : MH), gH HMs h → 0 ≤ k.toInt → k.toInt ≤ n.toInt → n.toInt - k.toInt < N → RP m_X7_copy 92 [some (.ref 123), some (.int s), some (.int i), some (.int t), some (.int j), some (.int n), some (.int k)] [] h (KP HMs (-2147483648) 2147483647 h) := by
  have z1 : (1 : Int32).toInt = 1 := by decide
  have z6 : (60 : Int32).toInt = 60 := by decide
  intro N
  induction N with
  | zero => intro k h _ _ _ q; exact absurd q (by omega)
  | succ N ih =>
    intro k h gh k1 k2 hN
    have e1 : (60 * t).toInt = 60 * t.toInt := i32_mulc z6 (by omega) (by omega)
    have e2 : (60 * t + j).toInt = 60 * t.toInt + j.toInt := (i32_add (by omega) (by omega)).trans (by omega)
    refine RP.step rfl ?_
    refine RP.step rfl ?_
    refine RP.icmp (x := k) (y := n) rfl (fun c => RP.step rfl (RP.ret rfl (KP.any gh (fH.rf _ _) 1))) (fun c => ?_)
    have c1 := m_ff m_ge_iff c
    have e3 : (60 * t + j + k).toInt = 60 * t.toInt + j.toInt + k.toInt := (i32_add (by omega) (by omega)).trans (by omega)
    have e4 : (k + 1).toInt = k.toInt + 1 := (i32_add (by omega) (by omega)).trans (by omega)
    refine RP.step rfl ?_
    refine RP.getR rfl gh rfl ?_
    refine RP.step rfl ?_
    refine RP.step rfl ?_
    refine RP.step rfl ?_
    refine RP.step rfl ?_
    refine RP.step rfl ?_
    refine RP.step rfl ?_
    refine RP.step rfl ?_
    refine RP.step rfl ?_
    refine RP.getR rfl gh rfl ?_
    refine RP.step rfl ?_
    refine RP.ald (t := 0) (j := k) rfl (Or.inl rfl) gh (show HMs[152]? = some (.inl (0, 60, -2147483648, 2147483647, false)) from rfl) k1 (by show _ < ((60 : Nat) : Int); omega) (fun _ _ => ?_)
    refine RP.ast (j := 60 * t + j + k) rfl gh (show HMs[151]? = some (.inl (0, 240, -2147483648, 2147483647, false)) from rfl) (by omega) (by show _ < ((240 : Nat) : Int); omega) ?_
    obtain ⟨g1, f1⟩ := setA_s (j := (60 * t + j + k).toNatClampNeg) (x := aI h 152 k.toNatClampNeg) gh (show HMs[151]? = some (.inl (0, 240, -2147483648, 2147483647, false)) from rfl) (i32_ge _) (i32_le _)
    refine RP.step (L1 := [some (.ref 123), some (.int s), some (.int i), some (.int t), some (.int j), some (.int n), some (.int (k + 1))]) rfl ?_
    refine RP.step rfl ?_
    exact (ih (k + 1) _ g1 (by omega) (by omega) (by omega)).mono (fun r h2 q => KP.tr g1 f1 q)
theorem y_copy_1 (s i t j n : Int32) (a1 : 0 ≤ s.toInt) (a2 : s.toInt ≤ 3) (u1 : 0 ≤ t.toInt) (u2 : t.toInt ≤ 3) (i1 : 0 ≤ i.toInt) (i2 : i.toInt + n.toInt ≤ 60) (j1 : 0 ≤ j.toInt) (n1 : 0 ≤ n.toInt) (n2 : n.toInt ≤ 60) (j2 : j.toInt + n.toInt ≤ 60) : ∀ (N : Nat) (k : Int32) (h : MH), gH HMs h → 0 ≤ k.toInt → k.toInt ≤ n.toInt → n.toInt - k.toInt < N → RP m_X7_copy 71 [some (.ref 123), some (.int s), some (.int i), some (.int t), some (.int j), some (.int n), some (.int k)] [] h (KP HMs (-2147483648) 2147483647 h) := by
  have z1 : (1 : Int32).toInt = 1 := by decide
  have z6 : (60 : Int32).toInt = 60 := by decide
  intro N
  induction N with
  | zero => intro k h _ _ _ q; exact absurd q (by omega)
  | succ N ih =>
    intro k h gh k1 k2 hN
    have e1 : (60 * s).toInt = 60 * s.toInt := i32_mulc z6 (by omega) (by omega)
    have e2 : (60 * s + i).toInt = 60 * s.toInt + i.toInt := (i32_add (by omega) (by omega)).trans (by omega)
    refine RP.step rfl ?_
    refine RP.step rfl ?_
    refine RP.icmp (x := k) (y := n) rfl (fun c => ?_) (fun c => ?_)
    · refine RP.step rfl ?_
      refine RP.step (L1 := [some (.ref 123), some (.int s), some (.int i), some (.int t), some (.int j), some (.int n), some (.int 0)]) rfl ?_
      exact y_copy_2 s i t j n u1 u2 j1 n1 n2 j2 61 0 h gh (by decide) n1 (by show n.toInt - 0 < 61; omega)
    have c1 := m_ff m_ge_iff c
    have e3 : (60 * s + i + k).toInt = 60 * s.toInt + i.toInt + k.toInt := (i32_add (by omega) (by omega)).trans (by omega)
    have e4 : (k + 1).toInt = k.toInt + 1 := (i32_add (by omega) (by omega)).trans (by omega)
    refine RP.step rfl ?_
    refine RP.getR rfl gh rfl ?_
    refine RP.step rfl ?_
    refine RP.step rfl ?_
    refine RP.getR rfl gh rfl ?_
    refine RP.step rfl ?_
    refine RP.step rfl ?_
    refine RP.step rfl ?_
    refine RP.step rfl ?_
    refine RP.step rfl ?_
    refine RP.step rfl ?_
    refine RP.step rfl ?_
    refine RP.ald (t := 0) (j := 60 * s + i + k) rfl (Or.inl rfl) gh (show HMs[151]? = some (.inl (0, 240, -2147483648, 2147483647, false)) from rfl) (by omega) (by show _ < ((240 : Nat) : Int); omega) (fun _ _ => ?_)
    refine RP.ast (j := k) rfl gh (show HMs[152]? = some (.inl (0, 60, -2147483648, 2147483647, false)) from rfl) k1 (by show _ < ((60 : Nat) : Int); omega) ?_
    obtain ⟨g1, f1⟩ := setA_s (j := k.toNatClampNeg) (x := aI h 151 (60 * s + i + k).toNatClampNeg) gh (show HMs[152]? = some (.inl (0, 60, -2147483648, 2147483647, false)) from rfl) (i32_ge _) (i32_le _)
    refine RP.step (L1 := [some (.ref 123), some (.int s), some (.int i), some (.int t), some (.int j), some (.int n), some (.int (k + 1))]) rfl ?_
    refine RP.step rfl ?_
    exact (ih (k + 1) _ g1 (by omega) (by omega) (by omega)).mono (fun r h2 q => KP.tr g1 f1 q)
theorem y_copy (s i t j n : Int32) (h : MH) (gh : gH HMs h) : RP m_X7_copy 0 (m_ent 7 [.ref 123, .int s, .int i, .int t, .int j, .int n]) [] h (KP HMs (-2147483648) 2147483647 h) := by
  have bad : RP m_X7_copy 6 (m_ent 7 [.ref 123, .int s, .int i, .int t, .int j, .int n]) [] h (KP HMs (-2147483648) 2147483647 h) := RP.step rfl (RP.ret rfl (KP.any gh (fH.rf _ _) (-2)))
  have lost : RP m_X7_copy 18 [some (.ref 123), some (.int s), some (.int i), some (.int t), some (.int j), some (.int n), none] [] h (KP HMs (-2147483648) 2147483647 h) := by
    refine RP.step rfl ?_
    refine RP.step rfl ?_
    refine c_meets (v := 1) rfl rfl rfl rfl rfl gh (fun g1 t1 => ?_)
    exact RP.ret rfl (KP.any g1 t1 _)
  have form : RP m_X7_copy 31 [some (.ref 123), some (.int s), some (.int i), some (.int t), some (.int j), some (.int n), none] [] h (KP HMs (-2147483648) 2147483647 h) := by
    refine RP.step rfl ?_
    refine RP.step rfl ?_
    refine c_meets (v := 4) rfl rfl rfl rfl rfl gh (fun g1 t1 => ?_)
    exact RP.ret rfl (KP.any g1 t1 _)
  have out : RP m_X7_copy 65 [some (.ref 123), some (.int s), some (.int i), some (.int t), some (.int j), some (.int n), none] [] h (KP HMs (-2147483648) 2147483647 h) := by
    refine RP.step rfl ?_
    refine RP.step rfl ?_
    refine c_meets (v := 2) rfl rfl rfl rfl rfl gh (fun g1 t1 => ?_)
    exact RP.ret rfl (KP.any g1 t1 _)
  have s148 : HMs[148]? = some (.inl (1, 4, 0, 1, false)) := rfl
  have s149 : HMs[149]? = some (.inl (0, 4, -2147483648, 2147483647, false)) := rfl
  have s150 : HMs[150]? = some (.inl (0, 4, 0, 60, false)) := rfl
  refine RP.step rfl ?_
  refine c_isSheet (v := s) rfl (fun a1 a2 => ?_) (fun q => RP.step rfl bad)
  refine RP.step rfl ?_
  refine RP.step rfl ?_
  refine c_isSheet (v := t) rfl (fun u1 u2 => ?_) (fun q => RP.step rfl bad)
  refine RP.step rfl ?_
  refine RP.step rfl ?_
  refine RP.getR rfl gh rfl ?_
  refine RP.step rfl ?_
  refine RP.ald (t := 1) (j := s) rfl (Or.inr rfl) gh s148 a1 (by show _ < ((4 : Nat) : Int); omega) (fun _ _ => ?_)
  refine RP.ifc rfl (fun c => lost) (fun c => ?_)
  refine RP.step rfl ?_
  refine RP.getR rfl gh rfl ?_
  refine RP.step rfl ?_
  refine RP.ald (t := 1) (j := t) rfl (Or.inr rfl) gh s148 u1 (by show _ < ((4 : Nat) : Int); omega) (fun _ _ => ?_)
  refine RP.ifc rfl (fun c => ?_) (fun c => lost)
  refine RP.step rfl ?_
  refine RP.getR rfl gh rfl ?_
  refine RP.step rfl ?_
  refine RP.ald (t := 0) (j := s) rfl (Or.inl rfl) gh s149 a1 (by show _ < ((4 : Nat) : Int); omega) (fun _ _ => ?_)
  refine RP.step rfl ?_
  refine RP.getR rfl gh rfl ?_
  refine RP.step rfl ?_
  refine RP.ald (t := 0) (j := t) rfl (Or.inl rfl) gh s149 u1 (by show _ < ((4 : Nat) : Int); omega) (fun _ _ => ?_)
  refine RP.icmp rfl (fun c => ?_) (fun c => form)
  refine RP.step rfl ?_
  refine RP.ifc rfl (fun c => out) (fun c => ?_)
  have i1 := m_ff m_lt0 c
  refine RP.step rfl ?_
  refine RP.ifc rfl (fun c => out) (fun c => ?_)
  have j1 := m_ff m_lt0 c
  refine RP.step rfl ?_
  refine RP.ifc rfl (fun c => out) (fun c => ?_)
  have n1 := m_ff m_lt0 c
  refine RP.step rfl ?_
  refine RP.step rfl ?_
  refine RP.step rfl ?_
  refine RP.step rfl ?_
  refine RP.step rfl ?_
  refine RP.step rfl ?_
  refine RP.getR rfl gh rfl ?_
  refine RP.step rfl ?_
  refine RP.ald (t := 0) (j := s) rfl (Or.inl rfl) gh s150 a1 (by show _ < ((4 : Nat) : Int); omega) (fun f1 f2 => ?_)
  refine RP.step rfl ?_
  refine RP.step rfl ?_
  refine RP.ifc (x := lg_cmp (i.toInt64 + n.toInt64) (aI h 150 s.toNatClampNeg).toInt64) rfl (fun c => out) (fun c => ?_)
  have k1 := m_ff lgc_gt c
  rw [i64_sum, Int32.toInt_toInt64] at k1
  refine RP.step rfl ?_
  refine RP.step rfl ?_
  refine RP.step rfl ?_
  refine RP.step rfl ?_
  refine RP.step rfl ?_
  refine RP.step rfl ?_
  refine RP.getR rfl gh rfl ?_
  refine RP.step rfl ?_
  refine RP.ald (t := 0) (j := t) rfl (Or.inl rfl) gh s150 u1 (by show _ < ((4 : Nat) : Int); omega) (fun f3 f4 => ?_)
  refine RP.step rfl ?_
  refine RP.step rfl ?_
  refine RP.ifc (x := lg_cmp (j.toInt64 + n.toInt64) (aI h 150 t.toNatClampNeg).toInt64) rfl (fun c => ?_) (fun c => out)
  have k2 := lgc_le.mp c
  rw [i64_sum, Int32.toInt_toInt64] at k2
  refine RP.step rfl ?_
  refine RP.step (L1 := [some (.ref 123), some (.int s), some (.int i), some (.int t), some (.int j), some (.int n), some (.int 0)]) rfl ?_
  exact y_copy_1 s i t j n a1 a2 u1 u2 (by omega) (by omega) (by omega) (by omega) (by omega) (by omega) 61 0 h gh (by decide) (by show 0 ≤ n.toInt; omega) (by show n.toInt - 0 < 61; omega)
