/-! river: the stream and the home told are the same on both sides -/
theorem fI_nk {h : MH} {a k j : Nat} {x : Int32} (e : ¬ j = k) : fI (setF h a k x) a j = fI h a j := by
  unfold setF
  split
  · rename_i ci vs hx
    have hl : a < h.length := (List.getElem?_eq_some_iff.mp hx).1
    unfold fI
    rw [List.getElem?_set_self hl, hx]
    dsimp only
    rw [List.getElem?_set_ne (fun q => e q.symm)]
  · rfl
theorem fI_na {h : MH} {a b k j : Nat} {x : Int32} (e : ¬ a = b) : fI (setF h a k x) b j = fI h b j := fI_cong (setF_ne e)
theorem fI_eq {H : AH} {h : MH} {ci k a : Nat} {lo hi : Int} {fz : Bool} {x : Int32} (gh : gH H h) (hf : a_fd H ci k a = some (.inr (lo, hi, fz))) : fI (setF h a k x) a k = x := by
  obtain ⟨vs, hx, hv, -, -⟩ := fI_sp gh hf
  have hk : k < vs.length := (List.getElem?_eq_some_iff.mp hv).1
  have hl : a < h.length := (List.getElem?_eq_some_iff.mp hx).1
  unfold setF
  rw [hx]
  dsimp only
  unfold fI
  rw [List.getElem?_set_self hl]
  dsimp only
  rw [List.getElem?_set_self hk]
def mk (h : MH) : MH := setF (setF h 0 12 1) 0 13 1
theorem mk_s {h : MH} (gh : gH HCs h) : gH HCs (mk h) ∧ fH HCs h (mk h) := by
  obtain ⟨g1, f1⟩ := setF_s (x := 1) gh (show a_fd HCs 6 12 0 = some (.inr (0, 1, false)) from rfl) (by decide) (by decide)
  obtain ⟨g2, f2⟩ := setF_s (x := 1) g1 (show a_fd HCs 6 13 0 = some (.inr (0, 1, false)) from rfl) (by decide) (by decide)
  exact ⟨g2, fH.tr g1 f1 f2⟩
theorem mk_n {h : MH} {b j : Nat} (e : ¬ 0 = b) : fI (mk h) b j = fI h b j := (fI_na e).trans (fI_na e)
theorem x_mark (h : MH) (gh : gH HCs h) : RP m_X6_markChanged 0 (m_ent 1 [.ref 0]) [] h (fun r h1 => r = none ∧ h1 = mk h) := by
  obtain ⟨g1, -⟩ := setF_s (x := 1) gh (show a_fd HCs 6 12 0 = some (.inr (0, 1, false)) from rfl) (by decide) (by decide)
  refine RP.step rfl ?_
  refine RP.step rfl ?_
  refine RP.putI (x := 1) rfl gh rfl rfl ?_
  refine RP.step rfl ?_
  refine RP.step rfl ?_
  refine RP.putI (x := 1) rfl g1 rfl rfl ?_
  exact RP.ret rfl ⟨rfl, rfl⟩
section MKC
variable {M : MM} {i : Nat} {L : ML} {rest : List Value} {h : MH} {P : Option Value → MH → Prop} {pc len : Nat} {ops : List Int} {idx : Nat}
theorem c_mark (hrow : (mc M)[i]? = some (pc, .invokevirtual idx, len, ops)) (e0 : m_n ops 0 = 86) (e1 : m_n ops 1 = 0) (e2 : m_n ops 2 = 6) (hsm : m_small rest = true) (gh : gH HCs h) (k : gH HCs (mk h) → fH HCs h (mk h) → RP M (i + 1) L rest (mk h) P) : RP M i L (.ref 0 :: rest) h P := by
  obtain ⟨vs, hx⟩ := ob_sp (a := 0) (ci := 6) gh rfl
  have hs := cv_step (fl := false) (xs := []) (L := L) (st := .ref 0 :: rest) (a := 0) (as := []) hrow (by rw [e1]; rfl) (by rw [e2]; exact hx) (by rw [e1]; rfl) (by rw [e1]; exact hsm)
  rw [e0, e1] at hs
  refine RP.call (M1 := m_X6_markChanged) hs rfl rfl (x_mark h gh) (fun r h1 q => ?_)
  obtain ⟨rfl, rfl⟩ := q
  obtain ⟨g1, f1⟩ := mk_s gh
  exact k g1 f1
end MKC
/-- the answer, the stream and the home behind it -/
def rvA (what v s m : Int32) : Int32 × Int32 × Int32 := if what = 0 ∧ (0 ≤ v.toInt ∧ v.toInt ≤ 9) then (s, v, m) else if what = 1 ∧ (50 ≤ v.toInt ∧ v.toInt ≤ 999) then (m, s, v) else (-2, s, m)
def RvX (what v : Int32) (h : MH) (r : Option Value) (h1 : MH) : Prop := gH HCs h1 ∧ fH HCs h h1 ∧ r = some (.int (rvA what v (fI h 10 5) (fI h 10 6)).1) ∧ fI h1 10 5 = (rvA what v (fI h 10 5) (fI h 10 6)).2.1 ∧ fI h1 10 6 = (rvA what v (fI h 10 5) (fI h 10 6)).2.2
def RvY (what v : Int32) (h : MH) (r : Option Value) (h1 : MH) : Prop := gH HMs h1 ∧ fH HMs h h1 ∧ r = some (.int (rvA what v (fI h 123 9) (fI h 123 10)).1) ∧ fI h1 123 9 = (rvA what v (fI h 123 9) (fI h 123 10)).2.1 ∧ fI h1 123 10 = (rvA what v (fI h 123 9) (fI h 123 10)).2.2
theorem rvA_bad {what v s m : Int32} (h1 : ¬ (what = 0 ∧ (0 ≤ v.toInt ∧ v.toInt ≤ 9))) (h2 : ¬ (what = 1 ∧ (50 ≤ v.toInt ∧ v.toInt ≤ 999))) : rvA what v s m = (-2, s, m) := by unfold rvA; rw [if_neg h1, if_neg h2]
theorem rvA_0 {what v s m : Int32} (h1 : what = 0 ∧ (0 ≤ v.toInt ∧ v.toInt ≤ 9)) : rvA what v s m = (s, v, m) := by unfold rvA; rw [if_pos h1]
theorem rvA_1 {what v s m : Int32} (h2 : what = 1 ∧ (50 ≤ v.toInt ∧ v.toInt ≤ 999)) : rvA what v s m = (m, s, v) := by
  unfold rvA
  rw [if_neg (fun q => by obtain ⟨rfl, -⟩ := h2; exact absurd q.1 (by decide)), if_pos h2]
theorem rvX_bad {what v : Int32} {h : MH} (gh : gH HCs h) (h1 : ¬ (what = 0 ∧ (0 ≤ v.toInt ∧ v.toInt ≤ 9))) (h2 : ¬ (what = 1 ∧ (50 ≤ v.toInt ∧ v.toInt ≤ 999))) : RvX what v h (some (.int (-2))) h := by
  unfold RvX
  rw [rvA_bad h1 h2]
  exact ⟨gh, fH.rf _ _, rfl, rfl, rfl⟩
theorem rvY_bad {what v : Int32} {h : MH} (gh : gH HMs h) (h1 : ¬ (what = 0 ∧ (0 ≤ v.toInt ∧ v.toInt ≤ 9))) (h2 : ¬ (what = 1 ∧ (50 ≤ v.toInt ∧ v.toInt ≤ 999))) : RvY what v h (some (.int (-2))) h := by
  unfold RvY
  rw [rvA_bad h1 h2]
  exact ⟨gh, fH.rf _ _, rfl, rfl, rfl⟩
theorem x_tellStream (v : Int32) (h : MH) (gh : gH HCs h) : RP m_X6_tellStream 0 (m_ent 3 [.ref 0, .int v]) [] h (RvX 0 v h) := by
  have z : (10 : Int32).toInt = 10 := by decide
  refine RP.step rfl ?_
  refine RP.step rfl ?_
  refine c_isBelow (v := v) (n := 10) rfl (fun a1 a2 => ?_) (fun q => ?_)
  · rw [z] at a2
    refine RP.step rfl ?_
    refine RP.step rfl ?_
    refine RP.getR rfl gh rfl ?_
    refine RP.getI rfl gh rfl (fun _ _ => ?_)
    refine RP.step (L1 := [some (.ref 0), some (.int v), some (.int (fI h 10 5))]) rfl ?_
    refine RP.step rfl ?_
    refine RP.getR rfl gh rfl ?_
    refine RP.step rfl ?_
    refine RP.putI (x := v) rfl gh rfl rfl ?_
    have hf : a_fd HCs 0 5 10 = some (.inr (-2147483648, 2147483647, false)) := rfl
    obtain ⟨g1, f1⟩ := setF_s (x := v) gh hf (i32_ge _) (i32_le _)
    refine RP.step rfl ?_
    refine c_mark rfl rfl rfl rfl rfl g1 (fun g2 f2 => ?_)
    refine RP.step rfl ?_
    refine RP.ret rfl ?_
    unfold RvX
    rw [rvA_0 ⟨rfl, a1, by omega⟩]
    exact ⟨g2, fH.tr g1 f1 f2, rfl, (mk_n (by decide)).trans (fI_eq gh hf), (mk_n (by decide)).trans (fI_nk (by decide))⟩
  · refine RP.step rfl ?_
    refine RP.step rfl ?_
    exact RP.ret rfl (rvX_bad gh (fun w => q ⟨w.2.1, by omega⟩) (fun w => absurd w.1 (by decide)))
theorem m_le_iff {x y : Int32} : m_cmp .le x y = true ↔ x.toInt ≤ y.toInt := ⟨fun h => Int32.le_iff_toInt_le.mp (of_decide_eq_true h), fun h => decide_eq_true (Int32.le_iff_toInt_le.mpr h)⟩
theorem x_tellHome (v : Int32) (h : MH) (gh : gH HCs h) : RP m_X6_tellHome 0 (m_ent 3 [.ref 0, .int v]) [] h (RvX 1 v h) := by
  have z1 : (50 : Int32).toInt = 50 := by decide
  have z2 : (999 : Int32).toInt = 999 := by decide
  have bad : ¬ (50 ≤ v.toInt ∧ v.toInt ≤ 999) → RP m_X6_tellHome 6 (m_ent 3 [.ref 0, .int v]) [] h (RvX 1 v h) := by
    intro q
    refine RP.step rfl ?_
    exact RP.ret rfl (rvX_bad gh (fun w => absurd w.1 (by decide)) (fun w => q w.2))
  refine RP.step rfl ?_
  refine RP.step rfl ?_
  refine RP.icmp (x := v) (y := 50) rfl (fun c => bad ?_) (fun c => ?_)
  · have := m_lt_iff.mp c
    omega
  have c1 := m_ff m_lt_iff c
  refine RP.step rfl ?_
  refine RP.step rfl ?_
  refine RP.icmp (x := v) (y := 999) rfl (fun c => ?_) (fun c => bad ?_)
  · have c2 := m_le_iff.mp c
    refine RP.step rfl ?_
    refine RP.getR rfl gh rfl ?_
    refine RP.getI rfl gh rfl (fun _ _ => ?_)
    refine RP.step (L1 := [some (.ref 0), some (.int v), some (.int (fI h 10 6))]) rfl ?_
    refine RP.step rfl ?_
    refine RP.getR rfl gh rfl ?_
    refine RP.step rfl ?_
    refine RP.putI (x := v) rfl gh rfl rfl ?_
    have hf : a_fd HCs 0 6 10 = some (.inr (-2147483648, 2147483647, false)) := rfl
    obtain ⟨g1, f1⟩ := setF_s (x := v) gh hf (i32_ge _) (i32_le _)
    refine RP.step rfl ?_
    refine c_mark rfl rfl rfl rfl rfl g1 (fun g2 f2 => ?_)
    refine RP.step rfl ?_
    refine RP.ret rfl ?_
    unfold RvX
    rw [rvA_1 ⟨rfl, by omega, by omega⟩]
    exact ⟨g2, fH.tr g1 f1 f2, rfl, (mk_n (by decide)).trans (fI_nk (by decide)), (mk_n (by decide)).trans (fI_eq gh hf)⟩
  · have := m_ff m_le_iff c
    omega
theorem x_river (what v : Int32) (h : MH) (gh : gH HCs h) : RP m_X6_river 0 (m_ent 3 [.ref 0, .int what, .int v]) [] h (RvX what v h) := by
  obtain ⟨vs, hx⟩ := ob_sp (a := 0) (ci := 6) gh rfl
  refine RP.step rfl ?_
  refine RP.ifc (x := what) rfl (fun c => ?_) (fun c => ?_)
  · have n0 := m_ne0.mp c
    refine RP.step rfl ?_
    refine RP.step rfl ?_
    refine RP.icmp (x := what) (y := 1) rfl (fun c => ?_) (fun c => ?_)
    · have n1 := m_ne_iff.mp c
      refine RP.step rfl ?_
      exact RP.ret rfl (rvX_bad gh (fun w => n0 w.1) (fun w => n1 w.1))
    · have e1 : what = 1 := Decidable.of_not_not (m_ff m_ne_iff c)
      subst e1
      refine RP.step rfl ?_
      refine RP.step rfl ?_
      refine RP.call (M1 := m_X6_tellHome) (cv_step rfl rfl hx rfl rfl) rfl rfl (x_tellHome v h gh) (fun r h1 q => ?_)
      obtain ⟨q1, q2, rfl, q3⟩ := q
      refine RP.step rfl ?_
      exact RP.ret rfl ⟨q1, q2, rfl, q3⟩
  · have e1 : what = 0 := Decidable.of_not_not (m_ff m_ne0 c)
    subst e1
    refine RP.step rfl ?_
    refine RP.step rfl ?_
    refine RP.call (M1 := m_X6_tellStream) (cv_step rfl rfl hx rfl rfl) rfl rfl (x_tellStream v h gh) (fun r h1 q => ?_)
    obtain ⟨q1, q2, rfl, q3⟩ := q
    exact RP.ret rfl ⟨q1, q2, rfl, q3⟩
section TWO
variable {M : MM} {i : Nat} {L : ML} {st rest : List Value} {h : MH} {P : Option Value → MH → Prop} {v : Int32}
theorem c_isTwo (hs : mstep false [] M i L st h = some (.inr (.inl (98, [.int v], rest)))) (kt : 0 ≤ v.toInt → v.toInt ≤ 1 → RP M (i + 1) L (.int 1 :: rest) h P) (kf : ¬ (0 ≤ v.toInt ∧ v.toInt ≤ 1) → RP M (i + 1) L (.int 0 :: rest) h P) : RP M i L st h P := by
  have z0 : (0 : Int32).toInt = 0 := by decide
  have z2 : (1 : Int32).toInt = 1 := by decide
  refine RP.call (M1 := m_X7_isTwo) (P1 := fun r h1 => h1 = h ∧ ((0 ≤ v.toInt ∧ v.toInt ≤ 1 ∧ r = some (.int 1)) ∨ (¬ (0 ≤ v.toInt ∧ v.toInt ≤ 1) ∧ r = some (.int 0)))) hs rfl rfl ?_ (fun r h1 q => ?_)
  · refine RP.step rfl ?_
    refine RP.step rfl ?_
    refine RP.step rfl ?_
    refine c_in (v := v) (a := 0) (b := 1) rfl (fun q1 q2 => ?_) (fun q1 => ?_)
    · exact RP.ret rfl ⟨rfl, Or.inl ⟨by omega, by omega, rfl⟩⟩
    · exact RP.ret rfl ⟨rfl, Or.inr ⟨by omega, rfl⟩⟩
  · obtain ⟨rfl, ⟨q1, q2, rfl⟩ | ⟨q1, rfl⟩⟩ := q
    · exact kt q1 q2
    · exact kf q1
end TWO
theorem y_river (what v : Int32) (h : MH) (gh : gH HMs h) : RP m_X7_river 0 (m_ent 4 [.ref 123, .int what, .int v]) [] h (RvY what v h) := by
  have z0 : (0 : Int32).toInt = 0 := by decide
  have z1 : (1 : Int32).toInt = 1 := by decide
  have z9 : (9 : Int32).toInt = 9 := by decide
  have z50 : (50 : Int32).toInt = 50 := by decide
  have z999 : (999 : Int32).toInt = 999 := by decide
  have hf9 : a_fd HMs 7 9 123 = some (.inr (-2147483648, 2147483647, false)) := rfl
  have hf10 : a_fd HMs 7 10 123 = some (.inr (-2147483648, 2147483647, false)) := rfl
  have bad : ¬ (what = 0 ∧ (0 ≤ v.toInt ∧ v.toInt ≤ 9)) → ¬ (what = 1 ∧ (50 ≤ v.toInt ∧ v.toInt ≤ 999)) → RP m_X7_river 18 (m_ent 4 [.ref 123, .int what, .int v]) [] h (RvY what v h) := by
    intro q1 q2
    refine RP.step rfl ?_
    exact RP.ret rfl (rvY_bad gh q1 q2)
  refine RP.step rfl ?_
  refine c_isTwo (v := what) rfl (fun a1 a2 => ?_) (fun q => ?_)
  · have hw : what = 0 ∨ what = 1 := by
      have : what.toInt = 0 ∨ what.toInt = 1 := by omega
      rcases this with e | e
      · exact Or.inl (Int32.toInt_inj.mp e)
      · exact Or.inr (Int32.toInt_inj.mp e)
    rcases hw with rfl | rfl
    · refine RP.step rfl ?_
      refine RP.step rfl ?_
      refine RP.step rfl ?_
      refine RP.step rfl ?_
      refine RP.step rfl ?_
      refine RP.step rfl ?_
      refine c_in (v := v) (a := 0) (b := 9) rfl (fun b1 b2 => ?_) (fun q => RP.step rfl (bad (fun w => q ⟨by omega, by omega⟩) (fun w => absurd w.1 (by decide))))
      refine RP.step rfl ?_
      refine RP.step rfl ?_
      refine RP.step rfl ?_
      refine RP.step rfl ?_
      refine RP.step rfl ?_
      refine RP.step rfl ?_
      refine RP.step rfl ?_
      refine RP.getI rfl gh hf9 (fun _ _ => ?_)
      refine RP.step rfl ?_
      refine RP.step (L1 := [some (.ref 123), some (.int 0), some (.int v), some (.int (fI h 123 9))]) rfl ?_
      refine RP.step rfl ?_
      refine RP.step rfl ?_
      refine RP.step rfl ?_
      refine RP.step rfl ?_
      refine RP.step rfl ?_
      refine RP.putI (x := v) rfl gh hf9 rfl ?_
      obtain ⟨g1, f1⟩ := setF_s (x := v) gh hf9 (i32_ge _) (i32_le _)
      refine RP.step rfl ?_
      refine RP.step rfl ?_
      refine RP.step rfl ?_
      refine RP.step rfl ?_
      refine RP.step rfl ?_
      refine RP.getI rfl g1 hf10 (fun _ _ => ?_)
      refine RP.putI rfl g1 hf10 rfl ?_
      obtain ⟨g2, f2⟩ := setF_s (x := fI (setF h 123 9 v) 123 10) g1 hf10 (i32_ge _) (i32_le _)
      refine RP.step rfl ?_
      refine RP.ret rfl ?_
      unfold RvY
      rw [rvA_0 ⟨rfl, by omega, by omega⟩]
      exact ⟨g2, fH.tr g1 f1 f2, rfl, (fI_nk (by decide)).trans (fI_eq gh hf9), (fI_eq g1 hf10).trans (fI_nk (by decide))⟩
    · refine RP.step rfl ?_
      refine RP.step rfl ?_
      refine RP.step rfl ?_
      refine RP.step rfl ?_
      refine RP.step rfl ?_
      refine RP.step rfl ?_
      refine RP.step rfl ?_
      refine RP.step rfl ?_
      refine RP.step rfl ?_
      refine c_in (v := v) (a := 50) (b := 999) rfl (fun b1 b2 => ?_) (fun q => RP.step rfl (bad (fun w => absurd w.1 (by decide)) (fun w => q ⟨by omega, by omega⟩)))
      refine RP.step rfl ?_
      refine RP.step rfl ?_
      refine RP.step rfl ?_
      refine RP.step rfl ?_
      refine RP.getI rfl gh hf10 (fun _ _ => ?_)
      refine RP.step (L1 := [some (.ref 123), some (.int 1), some (.int v), some (.int (fI h 123 10))]) rfl ?_
      refine RP.step rfl ?_
      refine RP.step rfl ?_
      refine RP.step rfl ?_
      refine RP.step rfl ?_
      refine RP.getI rfl gh hf9 (fun _ _ => ?_)
      refine RP.putI rfl gh hf9 rfl ?_
      obtain ⟨g1, f1⟩ := setF_s (x := fI h 123 9) gh hf9 (i32_ge _) (i32_le _)
      refine RP.step rfl ?_
      refine RP.step rfl ?_
      refine RP.step rfl ?_
      refine RP.step rfl ?_
      refine RP.step rfl ?_
      refine RP.step rfl ?_
      refine RP.putI (x := v) rfl g1 hf10 rfl ?_
      obtain ⟨g2, f2⟩ := setF_s (x := v) g1 hf10 (i32_ge _) (i32_le _)
      refine RP.step rfl ?_
      refine RP.ret rfl ?_
      unfold RvY
      rw [rvA_1 ⟨rfl, by omega, by omega⟩]
      exact ⟨g2, fH.tr g1 f1 f2, rfl, (fI_nk (by decide)).trans (fI_eq gh hf9), fI_eq g1 hf10⟩
  · refine RP.step rfl ?_
    refine bad (fun w => ?_) (fun w => ?_)
    · obtain ⟨rfl, -⟩ := w
      exact q ⟨by decide, by decide⟩
    · obtain ⟨rfl, -⟩ := w
      exact q ⟨by decide, by decide⟩
