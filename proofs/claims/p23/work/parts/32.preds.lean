/-! exact answers of the small tests; more rules -/
theorem m_lt0 {x : Int32} : m_cmp .lt x 0 = true ↔ x.toInt < 0 := by
  have z : (0 : Int32).toInt = 0 := by decide
  constructor
  · intro h
    have := Int32.lt_iff_toInt_lt.mp (of_decide_eq_true h)
    omega
  · intro h
    exact decide_eq_true (Int32.lt_iff_toInt_lt.mpr (by omega))
theorem m_ge_iff {x y : Int32} : m_cmp .ge x y = true ↔ y.toInt ≤ x.toInt := ⟨fun h => Int32.le_iff_toInt_le.mp (of_decide_eq_true h), fun h => decide_eq_true (Int32.le_iff_toInt_le.mpr h)⟩
theorem m_lt_iff {x y : Int32} : m_cmp .lt x y = true ↔ x.toInt < y.toInt := ⟨fun h => Int32.lt_iff_toInt_lt.mp (of_decide_eq_true h), fun h => decide_eq_true (Int32.lt_iff_toInt_lt.mpr h)⟩
theorem m_gt_iff {x y : Int32} : m_cmp .gt x y = true ↔ y.toInt < x.toInt := ⟨fun h => Int32.lt_iff_toInt_lt.mp (of_decide_eq_true h), fun h => decide_eq_true (Int32.lt_iff_toInt_lt.mpr h)⟩
theorem m_ff {b : Bool} {p : Prop} (h : b = true ↔ p) (hb : b = false) : ¬ p := fun q => by rw [h.mpr q] at hb; cases hb
theorem x_isBelow (v n : Int32) (h : MH) : RP m_X6_isBelow 0 (m_ent 2 [.int v, .int n]) [] h (fun r h1 => h1 = h ∧ ((0 ≤ v.toInt ∧ v.toInt < n.toInt ∧ r = some (.int 1)) ∨ (¬ (0 ≤ v.toInt ∧ v.toInt < n.toInt) ∧ r = some (.int 0)))) := by
  refine RP.step rfl ?_
  refine RP.ifc rfl (fun c1 => ?_) (fun c1 => ?_)
  · refine RP.step rfl ?_
    have := m_lt0.mp c1
    exact RP.ret rfl ⟨rfl, Or.inr ⟨by omega, rfl⟩⟩
  · have q1 := m_ff m_lt0 c1
    refine RP.step rfl ?_
    refine RP.step rfl ?_
    refine RP.icmp rfl (fun c2 => ?_) (fun c2 => ?_)
    · refine RP.step rfl ?_
      have := m_ge_iff.mp c2
      exact RP.ret rfl ⟨rfl, Or.inr ⟨by omega, rfl⟩⟩
    · have q2 := m_ff m_ge_iff c2
      refine RP.step rfl ?_
      refine RP.step rfl ?_
      exact RP.ret rfl ⟨rfl, Or.inl ⟨by omega, by omega, rfl⟩⟩
theorem x_in (v a b : Int32) (h : MH) : RP m_X7_in 0 (m_ent 3 [.int v, .int a, .int b]) [] h (fun r h1 => h1 = h ∧ ((a.toInt ≤ v.toInt ∧ v.toInt ≤ b.toInt ∧ r = some (.int 1)) ∨ (¬ (a.toInt ≤ v.toInt ∧ v.toInt ≤ b.toInt) ∧ r = some (.int 0)))) := by
  refine RP.step rfl ?_
  refine RP.step rfl ?_
  refine RP.icmp rfl (fun c1 => ?_) (fun c1 => ?_)
  · refine RP.step rfl ?_
    have := m_lt_iff.mp c1
    exact RP.ret rfl ⟨rfl, Or.inr ⟨by omega, rfl⟩⟩
  · have q1 := m_ff m_lt_iff c1
    refine RP.step rfl ?_
    refine RP.step rfl ?_
    refine RP.icmp rfl (fun c2 => ?_) (fun c2 => ?_)
    · refine RP.step rfl ?_
      have := m_gt_iff.mp c2
      exact RP.ret rfl ⟨rfl, Or.inr ⟨by omega, rfl⟩⟩
    · have q2 := m_ff m_gt_iff c2
      refine RP.step rfl ?_
      refine RP.step rfl ?_
      exact RP.ret rfl ⟨rfl, Or.inl ⟨by omega, by omega, rfl⟩⟩
section PRD
variable {M : MM} {i : Nat} {L : ML} {st rest : List Value} {h : MH} {P : Option Value → MH → Prop} {v n a b : Int32} {H : AH} {pc len : Nat} {ops : List Int}
theorem c_isBelow (hs : mstep false [] M i L st h = some (.inr (.inl (82, [.int v, .int n], rest)))) (kt : 0 ≤ v.toInt → v.toInt < n.toInt → RP M (i + 1) L (.int 1 :: rest) h P) (kf : ¬ (0 ≤ v.toInt ∧ v.toInt < n.toInt) → RP M (i + 1) L (.int 0 :: rest) h P) : RP M i L st h P := by
  refine RP.call (M1 := m_X6_isBelow) hs rfl rfl (x_isBelow v n h) (fun r h1 q => ?_)
  obtain ⟨rfl, ⟨q1, q2, rfl⟩ | ⟨q1, rfl⟩⟩ := q
  · exact kt q1 q2
  · exact kf q1
theorem c_in (hs : mstep false [] M i L st h = some (.inr (.inl (92, [.int v, .int a, .int b], rest)))) (kt : a.toInt ≤ v.toInt → v.toInt ≤ b.toInt → RP M (i + 1) L (.int 1 :: rest) h P) (kf : ¬ (a.toInt ≤ v.toInt ∧ v.toInt ≤ b.toInt) → RP M (i + 1) L (.int 0 :: rest) h P) : RP M i L st h P := by
  refine RP.call (M1 := m_X7_in) hs rfl rfl (x_in v a b h) (fun r h1 q => ?_)
  obtain ⟨rfl, ⟨q1, q2, rfl⟩ | ⟨q1, rfl⟩⟩ := q
  · exact kt q1 q2
  · exact kf q1
theorem c_isText (hs : mstep false [] M i L st h = some (.inr (.inl (96, [.int v], rest)))) (kt : 0 ≤ v.toInt → v.toInt ≤ 2 → RP M (i + 1) L (.int 1 :: rest) h P) (kf : ¬ (0 ≤ v.toInt ∧ v.toInt ≤ 2) → RP M (i + 1) L (.int 0 :: rest) h P) : RP M i L st h P := by
  have z0 : (0 : Int32).toInt = 0 := by decide
  have z2 : (2 : Int32).toInt = 2 := by decide
  refine RP.call (M1 := m_X7_isText) (P1 := fun r h1 => h1 = h ∧ ((0 ≤ v.toInt ∧ v.toInt ≤ 2 ∧ r = some (.int 1)) ∨ (¬ (0 ≤ v.toInt ∧ v.toInt ≤ 2) ∧ r = some (.int 0)))) hs rfl rfl ?_ (fun r h1 q => ?_)
  · refine RP.step rfl ?_
    refine RP.step rfl ?_
    refine RP.step rfl ?_
    refine c_in (v := v) (a := 0) (b := 2) rfl (fun q1 q2 => ?_) (fun q1 => ?_)
    · exact RP.ret rfl ⟨rfl, Or.inl ⟨by omega, by omega, rfl⟩⟩
    · exact RP.ret rfl ⟨rfl, Or.inr ⟨by omega, rfl⟩⟩
  · obtain ⟨rfl, ⟨q1, q2, rfl⟩ | ⟨q1, rfl⟩⟩ := q
    · exact kt q1 q2
    · exact kf q1
theorem RP.aald {x t r : Nat} {qs : List Nat} {j : Int32} (hrow : (mc M)[i]? = some (pc, .aaload, len, ops)) (gh : gH H h) (hf : H[x]? = some (.inr (.inl (t, qs)))) (ht : (t == 2 || (t == 3 || t == 4)) = true) (hj : m_ok j qs.length = true) (hq : qs[j.toNatClampNeg]? = some r) (k : RP M (i + 1) L (.ref r :: st) h P) : RP M i L (.int j :: .ref x :: st) h P := by
  obtain ⟨y, hy, hg⟩ := gh.2 x _ hf
  have ht9 : t = 2 ∨ t = 3 ∨ t = 4 := by simpa using ht
  rcases hg with hg | rfl
  · omega
  · refine RP.step ?_ k
    unfold mstep
    rw [hrow]
    show o_aald i L (Value.int j :: .ref x :: st) h = _
    unfold o_aald
    dsimp only
    rw [hy]
    dsimp only
    have hl : (qs.map some).length = qs.length := by simp
    rw [hl, hj, ht, List.getD_eq_getElem?_getD, List.getElem?_map, hq]
    rfl
end PRD
/-- two abstract heaps of the same ranges -/
def eqF (a b : AF) : Bool := match a, b with
  | .inl r, .inl q => r == q
  | .inr (l, u, _), .inr (l2, u2, _) => decide (l = l2) && decide (u = u2)
  | _, _ => false
def eqFs : List AF → List AF → Bool
  | [], [] => true
  | a :: as, b :: bs => eqF a b && eqFs as bs
  | _, _ => false
def eqC (a b : AC) : Bool := match a, b with
  | .inl (t, n, l, u, _), .inl (t2, n2, l2, u2, _) => t == t2 && (n == n2 && (decide (l = l2) && decide (u = u2)))
  | .inr (.inl (t, q)), .inr (.inl (t2, q2)) => t == t2 && q == q2
  | .inr (.inr (c, fs)), .inr (.inr (c2, fs2)) => c == c2 && eqFs fs fs2
  | _, _ => false
def eqH : AH → AH → Bool
  | [], [] => true
  | a :: as, b :: bs => eqC a b && eqH as bs
  | _, _ => false
theorem eqF_ok {a b : AF} {v : Value} (h : eqF a b = true) (g : gF a v) : gF b v := by
  unfold eqF at h
  split at h
  · have e := eq_of_beq h
    subst e
    exact g
  · obtain ⟨e1, e2⟩ := b_and h
    have e1 := of_decide_eq_true e1
    have e2 := of_decide_eq_true e2
    subst e1
    subst e2
    exact g
  · cases h
theorem eqFs_get : ∀ {as bs : List AF}, eqFs as bs = true → as.length = bs.length ∧ ∀ (k : Nat) (f : AF), bs[k]? = some f → ∃ g, as[k]? = some g ∧ eqF g f = true
  | [], [], _ => ⟨rfl, fun k f h => by simp at h⟩
  | a :: as, b :: bs, h => by
    obtain ⟨h1, h2⟩ := b_and h
    obtain ⟨e, ih⟩ := eqFs_get h2
    refine ⟨by simp [e], fun k f hf => ?_⟩
    cases k with
    | zero => cases hf; exact ⟨a, rfl, h1⟩
    | succ k => exact ih k f (by simpa using hf)
  | [], _ :: _, h => by cases h
  | _ :: _, [], h => by cases h
theorem eqC_ok {a b : AC} {x : ME} (h : eqC a b = true) (g : gC a x) : gC b x := by
  unfold eqC at h
  split at h
  · obtain ⟨e1, h⟩ := b_and h
    obtain ⟨e2, h⟩ := b_and h
    obtain ⟨e3, e4⟩ := b_and h
    have e1 := eq_of_beq e1
    have e2 := eq_of_beq e2
    have e3 := of_decide_eq_true e3
    have e4 := of_decide_eq_true e4
    subst e1
    subst e2
    subst e3
    subst e4
    exact g
  · obtain ⟨e1, e2⟩ := b_and h
    have e1 := eq_of_beq e1
    have e2 := eq_of_beq e2
    subst e1
    subst e2
    exact g
  · obtain ⟨e1, e2⟩ := b_and h
    have e1 := eq_of_beq e1
    subst e1
    obtain ⟨el, eg⟩ := eqFs_get e2
    obtain ⟨vs, hx, hl, hb⟩ := g
    refine ⟨vs, hx, hl.trans el, fun k f hf => ?_⟩
    obtain ⟨f2, hf2, he⟩ := eg k f hf
    obtain ⟨v, hv, gv⟩ := hb k f2 hf2
    exact ⟨v, hv, eqF_ok he gv⟩
  · cases h
theorem eqH_get : ∀ {as bs : AH}, eqH as bs = true → as.length = bs.length ∧ ∀ (k : Nat) (f : AC), bs[k]? = some f → ∃ g, as[k]? = some g ∧ eqC g f = true
  | [], [], _ => ⟨rfl, fun k f h => by simp at h⟩
  | a :: as, b :: bs, h => by
    obtain ⟨h1, h2⟩ := b_and h
    obtain ⟨e, ih⟩ := eqH_get h2
    refine ⟨by simp [e], fun k f hf => ?_⟩
    cases k with
    | zero => cases hf; exact ⟨a, rfl, h1⟩
    | succ k => exact ih k f (by simpa using hf)
  | [], _ :: _, h => by cases h
  | _ :: _, [], h => by cases h
theorem gH.eq {H H1 : AH} {h : MH} (e : eqH H H1 = true) (g : gH H h) : gH H1 h := by
  obtain ⟨el, eg⟩ := eqH_get e
  refine ⟨el.symm.trans g.1, fun a c hc => ?_⟩
  obtain ⟨c2, hc2, he⟩ := eg a c hc
  obtain ⟨x, hx, gx⟩ := g.2 a c2 hc2
  exact ⟨x, hx, eqC_ok he gx⟩
