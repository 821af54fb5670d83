/-! what a step of the small machine was; every step goes up in cells; all instructions together -/
theorem lenOf {ins : Instr} {len k : Nat} (h : (decide (m_len ins = 0) || decide (len = m_len ins)) = true) (hk : m_len ins = k) (hk0 : k ≠ 0) : len = k := by
  rw [hk] at h
  simp only [Bool.or_eq_true, decide_eq_true_eq] at h
  exact h.resolve_left hk0
theorem v_ii {f : Int32 → Int32 → Int32} {i i1 : Nat} {L L1 : ML} {st st1 : List Value} {h h1 : MH} (hm : o_ii f i L st h = some (.inl (i1, L1, st1, h1))) : ∃ x y r, st = .int y :: .int x :: r ∧ i1 = i + 1 ∧ L1 = L ∧ st1 = .int (f x y) :: r ∧ h1 = h := by
  unfold o_ii at hm
  split at hm
  · exact ⟨_, _, _, rfl, nx_eq hm⟩
  · cases hm
theorem v_id {f : Int32 → Int32 → Int32} {i i1 : Nat} {L L1 : ML} {st st1 : List Value} {h h1 : MH} (hm : o_id f i L st h = some (.inl (i1, L1, st1, h1))) : ∃ x y r, ¬ y = 0 ∧ st = .int y :: .int x :: r ∧ i1 = i + 1 ∧ L1 = L ∧ st1 = .int (f x y) :: r ∧ h1 = h := by
  unfold o_id at hm
  split at hm
  · obtain ⟨h1, h2⟩ := p_ifn hm
    exact ⟨_, _, _, h1, rfl, nx_eq h2⟩
  · cases hm
theorem v_jj {f : Int64 → Int64 → Int64} {i i1 : Nat} {L L1 : ML} {st st1 : List Value} {h h1 : MH} (hm : o_jj f i L st h = some (.inl (i1, L1, st1, h1))) : ∃ x y r, st = .long y :: .long x :: r ∧ i1 = i + 1 ∧ L1 = L ∧ st1 = .long (f x y) :: r ∧ h1 = h := by
  unfold o_jj at hm
  split at hm
  · exact ⟨_, _, _, rfl, nx_eq hm⟩
  · cases hm
theorem v_jd {f : Int64 → Int64 → Int64} {i i1 : Nat} {L L1 : ML} {st st1 : List Value} {h h1 : MH} (hm : o_jd f i L st h = some (.inl (i1, L1, st1, h1))) : ∃ x y r, ¬ y = 0 ∧ st = .long y :: .long x :: r ∧ i1 = i + 1 ∧ L1 = L ∧ st1 = .long (f x y) :: r ∧ h1 = h := by
  unfold o_jd at hm
  split at hm
  · obtain ⟨h1, h2⟩ := p_ifn hm
    exact ⟨_, _, _, h1, rfl, nx_eq h2⟩
  · cases hm
theorem v_i1 {f : Int32 → Value} {i i1 : Nat} {L L1 : ML} {st st1 : List Value} {h h1 : MH} (hm : o_i1 f i L st h = some (.inl (i1, L1, st1, h1))) : ∃ x r, st = .int x :: r ∧ i1 = i + 1 ∧ L1 = L ∧ st1 = f x :: r ∧ h1 = h := by
  unfold o_i1 at hm
  split at hm
  · exact ⟨_, _, rfl, nx_eq hm⟩
  · cases hm
theorem v_lshl {i i1 : Nat} {L L1 : ML} {st st1 : List Value} {h h1 : MH} (hm : o_lshl i L st h = some (.inl (i1, L1, st1, h1))) : ∃ x y r, st = .int y :: .long x :: r ∧ i1 = i + 1 ∧ L1 = L ∧ st1 = .long (x <<< (y.toInt64 &&& 63)) :: r ∧ h1 = h := by
  unfold o_lshl at hm
  split at hm
  · exact ⟨_, _, _, rfl, nx_eq hm⟩
  · cases hm
theorem v_lcmp {i i1 : Nat} {L L1 : ML} {st st1 : List Value} {h h1 : MH} (hm : o_lcmp i L st h = some (.inl (i1, L1, st1, h1))) : ∃ x y r, st = .long y :: .long x :: r ∧ i1 = i + 1 ∧ L1 = L ∧ st1 = .int (lg_cmp x y) :: r ∧ h1 = h := by
  unfold o_lcmp at hm
  split at hm
  · exact ⟨_, _, _, rfl, nx_eq hm⟩
  · cases hm
theorem v_il {k i i1 : Nat} {L L1 : ML} {st st1 : List Value} {h h1 : MH} (hm : o_il k i L st h = some (.inl (i1, L1, st1, h1))) : ∃ x, L[k]? = some (some (.int x)) ∧ i1 = i + 1 ∧ L1 = L ∧ st1 = .int x :: st ∧ h1 = h := by
  unfold o_il at hm
  split at hm
  · rename_i x hx
    exact ⟨x, hx, nx_eq hm⟩
  · cases hm
theorem v_jl {k i i1 : Nat} {L L1 : ML} {st st1 : List Value} {h h1 : MH} (hm : o_jl k i L st h = some (.inl (i1, L1, st1, h1))) : ∃ x, L[k]? = some (some (.long x)) ∧ i1 = i + 1 ∧ L1 = L ∧ st1 = .long x :: st ∧ h1 = h := by
  unfold o_jl at hm
  split at hm
  · rename_i x hx
    exact ⟨x, hx, nx_eq hm⟩
  · cases hm
theorem v_al {b base k i i1 : Nat} {L L1 : ML} {st st1 : List Value} {h h1 : MH} (hm : o_al k i L st h = some (.inl (i1, L1, st1, h1))) : ∃ v q, L[k]? = some (some v) ∧ zt b base v = .ref q ∧ i1 = i + 1 ∧ L1 = L ∧ st1 = v :: st ∧ h1 = h := by
  unfold o_al at hm
  split at hm
  · rename_i x hx
    exact ⟨.ref x, _, hx, rfl, nx_eq hm⟩
  · rename_i x hx
    exact ⟨.float x, _, hx, rfl, nx_eq hm⟩
  · cases hm
theorem v_is {k i i1 : Nat} {L L1 : ML} {st st1 : List Value} {h h1 : MH} (hm : o_is k i L st h = some (.inl (i1, L1, st1, h1))) : ∃ x r, k < L.length ∧ st = .int x :: r ∧ i1 = i + 1 ∧ L1 = m_st1 L k (.int x) ∧ st1 = r ∧ h1 = h := by
  unfold o_is at hm
  split at hm
  · obtain ⟨h1, h2⟩ := p_if hm
    exact ⟨_, _, h1, rfl, nx_eq h2⟩
  · cases hm
theorem v_js {k i i1 : Nat} {L L1 : ML} {st st1 : List Value} {h h1 : MH} (hm : o_js k i L st h = some (.inl (i1, L1, st1, h1))) : ∃ x r, k + 1 < L.length ∧ st = .long x :: r ∧ i1 = i + 1 ∧ L1 = m_st2 L k (.long x) ∧ st1 = r ∧ h1 = h := by
  unfold o_js at hm
  split at hm
  · obtain ⟨h1, h2⟩ := p_if hm
    exact ⟨_, _, h1, rfl, nx_eq h2⟩
  · cases hm
theorem v_as {k i i1 : Nat} {L L1 : ML} {st st1 : List Value} {h h1 : MH} (hm : o_as k i L st h = some (.inl (i1, L1, st1, h1))) : ∃ x r, k < L.length ∧ st = .ref x :: r ∧ i1 = i + 1 ∧ L1 = m_st1 L k (.ref x) ∧ st1 = r ∧ h1 = h := by
  unfold o_as at hm
  split at hm
  · obtain ⟨h1, h2⟩ := p_if hm
    exact ⟨_, _, h1, rfl, nx_eq h2⟩
  · cases hm
theorem v_inc {k i i1 : Nat} {n : Int} {L L1 : ML} {st st1 : List Value} {h h1 : MH} (hm : o_inc k n i L st h = some (.inl (i1, L1, st1, h1))) : ∃ x, L[k]? = some (some (.int x)) ∧ i1 = i + 1 ∧ L1 = m_st1 L k (.int (x + Int32.ofInt n)) ∧ st1 = st ∧ h1 = h := by
  unfold o_inc at hm
  split at hm
  · rename_i x hx
    exact ⟨x, hx, nx_eq hm⟩
  · cases hm
theorem v_dup {i i1 : Nat} {L L1 : ML} {st st1 : List Value} {h h1 : MH} (hm : o_dup i L st h = some (.inl (i1, L1, st1, h1))) : ∃ v r, v.category = 1 ∧ st = v :: r ∧ i1 = i + 1 ∧ L1 = L ∧ st1 = v :: v :: r ∧ h1 = h := by
  unfold o_dup at hm
  split at hm
  · obtain ⟨h1, h2⟩ := p_if hm
    exact ⟨_, _, h1, rfl, nx_eq h2⟩
  · cases hm
theorem v_dup2 {i i1 : Nat} {L L1 : ML} {st st1 : List Value} {h h1 : MH} (hm : o_dup2 i L st h = some (.inl (i1, L1, st1, h1))) : ∃ v w r, (v.category = 1 ∧ w.category = 1) ∧ st = v :: w :: r ∧ i1 = i + 1 ∧ L1 = L ∧ st1 = v :: w :: v :: w :: r ∧ h1 = h := by
  unfold o_dup2 at hm
  split at hm
  · obtain ⟨h1, h2⟩ := p_if hm
    exact ⟨_, _, _, h1, rfl, nx_eq h2⟩
  · cases hm
theorem v_pop {i i1 : Nat} {L L1 : ML} {st st1 : List Value} {h h1 : MH} (hm : o_pop i L st h = some (.inl (i1, L1, st1, h1))) : ∃ v r, v.category = 1 ∧ st = v :: r ∧ i1 = i + 1 ∧ L1 = L ∧ st1 = r ∧ h1 = h := by
  unfold o_pop at hm
  split at hm
  · obtain ⟨h1, h2⟩ := p_if hm
    exact ⟨_, _, h1, rfl, nx_eq h2⟩
  · cases hm
theorem v_pop2 {i i1 : Nat} {L L1 : ML} {st st1 : List Value} {h h1 : MH} (hm : o_pop2 i L st h = some (.inl (i1, L1, st1, h1))) : ∃ v r, v.category = 2 ∧ st = v :: r ∧ i1 = i + 1 ∧ L1 = L ∧ st1 = r ∧ h1 = h := by
  unfold o_pop2 at hm
  split at hm
  · obtain ⟨h1, h2⟩ := p_if hm
    exact ⟨_, _, h1, rfl, nx_eq h2⟩
  · cases hm
theorem v_br {q : Bool} {t i i1 : Nat} {L L1 : ML} {st st1 : List Value} {h h1 : MH} (hm : (bif q then (some (.inl (t, L, st, h)) : Option MO) else o_nx i L st h) = some (.inl (i1, L1, st1, h1))) : L1 = L ∧ st1 = st ∧ h1 = h ∧ ((q = true ∧ i1 = t) ∨ (q = false ∧ i1 = i + 1)) := by
  cases q
  · obtain ⟨e1, e2, e3, e4⟩ := nx_eq hm
    exact ⟨e2, e3, e4, Or.inr ⟨rfl, e1⟩⟩
  · cases hm
    exact ⟨rfl, rfl, rfl, Or.inl ⟨rfl, rfl⟩⟩
theorem v_if {c : Jvm.ClassFile.Cond} {t i i1 : Nat} {L L1 : ML} {st st1 : List Value} {h h1 : MH} (hm : o_if c t i L st h = some (.inl (i1, L1, st1, h1))) : ∃ x, st = .int x :: st1 ∧ L1 = L ∧ h1 = h ∧ ((m_cmp c x 0 = true ∧ i1 = t) ∨ (m_cmp c x 0 = false ∧ i1 = i + 1)) := by
  unfold o_if at hm
  split at hm
  · obtain ⟨e1, e2, e3, e4⟩ := v_br hm
    exact ⟨_, by rw [e2], e1, e3, e4⟩
  · cases hm
theorem v_icmp {c : Jvm.ClassFile.Cond} {t i i1 : Nat} {L L1 : ML} {st st1 : List Value} {h h1 : MH} (hm : o_icmp c t i L st h = some (.inl (i1, L1, st1, h1))) : ∃ x y, st = .int y :: .int x :: st1 ∧ L1 = L ∧ h1 = h ∧ ((m_cmp c x y = true ∧ i1 = t) ∨ (m_cmp c x y = false ∧ i1 = i + 1)) := by
  unfold o_icmp at hm
  split at hm
  · obtain ⟨e1, e2, e3, e4⟩ := v_br hm
    exact ⟨_, _, by rw [e2], e1, e3, e4⟩
  · cases hm
theorem v_mm {f : Int32 → Int32 → Int32} {i i1 : Nat} {L L1 : ML} {st st1 : List Value} {h h1 : MH} (hm : o_mm f i L st h = some (.inl (i1, L1, st1, h1))) : ∃ x y r, (r.map fun v => v.category).sum ≤ 8 ∧ st = .int y :: .int x :: r ∧ i1 = i + 1 ∧ L1 = L ∧ st1 = .int (f x y) :: r ∧ h1 = h := by
  unfold o_mm at hm
  split at hm
  · obtain ⟨h1, h2⟩ := b_if hm
    exact ⟨_, _, _, of_decide_eq_true h1, rfl, nx_eq h2⟩
  · cases hm
theorem v_ma {i i1 : Nat} {L L1 : ML} {st st1 : List Value} {h h1 : MH} (hm : o_ma i L st h = some (.inl (i1, L1, st1, h1))) : ∃ x r, (r.map fun v => v.category).sum ≤ 8 ∧ st = .int x :: r ∧ i1 = i + 1 ∧ L1 = L ∧ st1 = .int (if 0 ≤ x then x else 0 - x) :: r ∧ h1 = h := by
  unfold o_ma at hm
  split at hm
  · obtain ⟨h1, h2⟩ := b_if hm
    exact ⟨_, _, of_decide_eq_true h1, rfl, nx_eq h2⟩
  · cases hm
/-- no cell goes -/
def m_up (h h1 : MH) : Prop := h.length ≤ h1.length ∧ zs h ≤ zs h1
theorem up_eq {h h1 : MH} (e : h1 = h) : m_up h h1 := by subst e; exact ⟨Nat.le_refl _, Nat.le_refl _⟩
theorem up_set {h : MH} {a : Nat} {x y : ME} (hx : h[a]? = some x) (he : szE y = szE x) : m_up h (h.set a y) := ⟨by rw [List.length_set]; exact Nat.le_refl _, by rw [zs_set hx he]; exact Nat.le_refl _⟩
theorem up_app (h k : MH) : m_up h (h ++ k) := ⟨by rw [List.length_append]; omega, by rw [zs_app]; omega⟩
theorem up_nx {i i1 : Nat} {L L1 : ML} {st st1 : List Value} {h h0 h1 : MH} (e : o_nx i L st h0 = some (.inl (i1, L1, st1, h1))) (hu : m_up h h0) : m_up h h1 := by
  rw [(nx_eq e).2.2.2]; exact hu
theorem u_ald {fl : Bool} {xs : List Int32} {t i i1 : Nat} {L L1 : ML} {st st1 : List Value} {h h1 : MH} (hm : o_ald fl xs t i L st h = some (.inl (i1, L1, st1, h1))) : m_up h h1 := by
  unfold o_ald at hm
  split at hm
  · split at hm
    · exact up_nx (b_if hm).2 (up_eq rfl)
    · cases hm
  · exact up_nx (b_if hm).2 (up_eq rfl)
  · cases hm
theorem u_ast {t i i1 : Nat} {L L1 : ML} {st st1 : List Value} {h h1 : MH} (hm : o_ast t i L st h = some (.inl (i1, L1, st1, h1))) : m_up h h1 := by
  unfold o_ast at hm
  split at hm
  · split at hm
    · rename_i hq
      exact up_nx (b_if hm).2 (up_set hq (by simp [szE]))
    · cases hm
  · cases hm
theorem u_aald {i i1 : Nat} {L L1 : ML} {st st1 : List Value} {h h1 : MH} (hm : o_aald i L st h = some (.inl (i1, L1, st1, h1))) : m_up h h1 := by
  unfold o_aald at hm
  split at hm
  · split at hm
    · exact up_nx (b_if hm).2 (up_eq rfl)
    · cases hm
  · cases hm
theorem u_aast {i i1 : Nat} {L L1 : ML} {st st1 : List Value} {h h1 : MH} (hm : o_aast i L st h = some (.inl (i1, L1, st1, h1))) : m_up h h1 := by
  unfold o_aast at hm
  split at hm
  · split at hm
    · rename_i hq hv
      exact up_nx (b_if hm).2 (up_set hq (by simp [szE]))
    · cases hm
  · cases hm
theorem u_len {fl : Bool} {xs : List Int32} {i i1 : Nat} {L L1 : ML} {st st1 : List Value} {h h1 : MH} (hm : o_len fl xs i L st h = some (.inl (i1, L1, st1, h1))) : m_up h h1 := by
  unfold o_len at hm
  split at hm
  · split at hm
    · exact up_nx hm (up_eq rfl)
    · cases hm
  · exact up_nx (b_if hm).2 (up_eq rfl)
  · cases hm
theorem u_newa {t i i1 : Nat} {L L1 : ML} {st st1 : List Value} {h h1 : MH} (hm : o_newa t i L st h = some (.inl (i1, L1, st1, h1))) : m_up h h1 := by
  unfold o_newa at hm
  split at hm
  · exact up_nx (b_if hm).2 (up_app _ _)
  · cases hm
theorem u_newq {t i i1 : Nat} {L L1 : ML} {st st1 : List Value} {h h1 : MH} (hm : o_newq t i L st h = some (.inl (i1, L1, st1, h1))) : m_up h h1 := by
  unfold o_newq at hm
  split at hm
  · exact up_nx (b_if hm).2 (up_app _ _)
  · cases hm
theorem u_newm {i i1 : Nat} {L L1 : ML} {st st1 : List Value} {h h1 : MH} (hm : o_newm i L st h = some (.inl (i1, L1, st1, h1))) : m_up h h1 := by
  unfold o_newm at hm
  split at hm
  · exact up_nx (b_if hm).2 (up_app _ _)
  · cases hm
theorem u_get {ci k i i1 : Nat} {L L1 : ML} {st st1 : List Value} {h h1 : MH} (hm : o_get ci k i L st h = some (.inl (i1, L1, st1, h1))) : m_up h h1 := by
  unfold o_get at hm
  split at hm
  · split at hm
    · have hm := (b_if hm).2
      split at hm
      · exact up_nx hm (up_eq rfl)
      · cases hm
    · cases hm
  · cases hm
theorem u_put {ci k tc i i1 : Nat} {L L1 : ML} {st st1 : List Value} {h h1 : MH} (hm : o_put ci k tc i L st h = some (.inl (i1, L1, st1, h1))) : m_up h h1 := by
  unfold o_put at hm
  split at hm
  · split at hm
    · rename_i hq
      exact up_nx (b_if hm).2 (up_set hq (by simp [szE]))
    · cases hm
  · cases hm
theorem u_cpy {i i1 : Nat} {L L1 : ML} {st st1 : List Value} {h h1 : MH} (hm : o_cpy i L st h = some (.inl (i1, L1, st1, h1))) : m_up h h1 := by
  unfold o_cpy at hm
  split at hm
  · split at hm
    · rename_i hq0 hq1
      obtain ⟨g1, g2⟩ := b_if hm
      obtain ⟨g3, g4⟩ := b_and g1
      obtain ⟨x4, g4⟩ := b_and g4
      obtain ⟨x5, x6⟩ := b_and g4
      have x4 := of_decide_eq_true x4
      have x5 := of_decide_eq_true x5
      exact up_nx g2 (up_set hq1 (by simp [szE, m_cpy]; omega))
    · cases hm
  · cases hm
theorem u_obj {i i1 : Nat} {L L1 : ML} {st st1 : List Value} {h h1 : MH} (hm : o_obj i L st h = some (.inl (i1, L1, st1, h1))) : m_up h h1 := by
  unfold o_obj at hm
  split at hm
  · exact up_nx (b_if hm).2 (up_eq rfl)
  · cases hm
theorem n_cv {y n ci : Nat} {st : List Value} {h : MH} {q : Nat × ML × List Value × MH} (hm : o_cv y n ci st h = some (.inl q)) : False := by
  unfold o_cv at hm
  split at hm
  · split at hm
    · have := (b_if hm).2; cases this
    · cases hm
  · cases hm
theorem n_cs {y n : Nat} {st : List Value} {q : Nat × ML × List Value × MH} (hm : o_cs y n st = some (.inl q)) : False := by
  unfold o_cs at hm
  have := (b_if hm).2; cases this
theorem n_ci {y n : Nat} {st : List Value} {q : Nat × ML × List Value × MH} (hm : o_ci y n st = some (.inl q)) : False := by
  unfold o_ci at hm
  split at hm
  · have := (b_if hm).2; cases this
  · cases hm
theorem n_ret {z : Nat} {st : List Value} {q : Nat × ML × List Value × MH} (hm : o_ret z st = some (.inl q)) : False := by
  unfold o_ret at hm
  split at hm
  · have := (b_if hm).2; cases this
  · cases hm
theorem n_lret {st : List Value} {q : Nat × ML × List Value × MH} (hm : o_lret st = some (.inl q)) : False := by
  unfold o_lret at hm
  split at hm <;> cases hm
theorem n_aret {st : List Value} {q : Nat × ML × List Value × MH} (hm : o_aret st = some (.inl q)) : False := by
  unfold o_aret at hm
  split at hm <;> cases hm
theorem n_vret {st : List Value} {q : Nat × ML × List Value × MH} (hm : o_vret st = some (.inl q)) : False := by
  unfold o_vret at hm
  split at hm <;> cases hm
theorem u_sw {lo hi : Int} {ops : List Int} {i1 : Nat} {L L1 : ML} {st st1 : List Value} {h h1 : MH} (hm : o_sw lo hi ops L st h = some (.inl (i1, L1, st1, h1))) : m_up h h1 := by
  unfold o_sw at hm
  split at hm
  · split at hm <;> (cases hm; exact up_eq rfl)
  · cases hm
theorem mexec_up {fl : Bool} {xs : List Int32} {ins : Instr} {ops : List Int} {i i1 : Nat} {L L1 : ML} {st st1 : List Value} {h h1 : MH} (hm : mexec fl xs ins ops i L st h = some (.inl (i1, L1, st1, h1))) : m_up h h1 := by
  cases ins
  case iconst n => exact up_nx hm (up_eq rfl)
  case bipush n => exact up_nx hm (up_eq rfl)
  case sipush n => exact up_nx hm (up_eq rfl)
  case ldc n => exact up_nx hm (up_eq rfl)
  case ldc_w n => exact up_nx hm (up_eq rfl)
  case ldc2_w n => exact up_nx hm (up_eq rfl)
  case lconst n => exact up_nx hm (up_eq rfl)
  case iload k => obtain ⟨_, _, _, _, _, e⟩ := v_il hm; exact up_eq e
  case iload_n k => obtain ⟨_, _, _, _, _, e⟩ := v_il hm; exact up_eq e
  case lload k => obtain ⟨_, _, _, _, _, e⟩ := v_jl hm; exact up_eq e
  case lload_n k => obtain ⟨_, _, _, _, _, e⟩ := v_jl hm; exact up_eq e
  case aload k => obtain ⟨_, _, _, _, _, _, _, e⟩ := v_al (b := 0) (base := 0) hm; exact up_eq e
  case aload_n k => obtain ⟨_, _, _, _, _, _, _, e⟩ := v_al (b := 0) (base := 0) hm; exact up_eq e
  case istore k => obtain ⟨_, _, _, _, _, _, _, e⟩ := v_is hm; exact up_eq e
  case istore_n k => obtain ⟨_, _, _, _, _, _, _, e⟩ := v_is hm; exact up_eq e
  case lstore k => obtain ⟨_, _, _, _, _, _, _, e⟩ := v_js hm; exact up_eq e
  case lstore_n k => obtain ⟨_, _, _, _, _, _, _, e⟩ := v_js hm; exact up_eq e
  case astore k => obtain ⟨_, _, _, _, _, _, _, e⟩ := v_as hm; exact up_eq e
  case astore_n k => obtain ⟨_, _, _, _, _, _, _, e⟩ := v_as hm; exact up_eq e
  case iinc k n => obtain ⟨_, _, _, _, _, e⟩ := v_inc hm; exact up_eq e
  case dup => obtain ⟨_, _, _, _, _, _, _, e⟩ := v_dup hm; exact up_eq e
  case dup2 => obtain ⟨_, _, _, _, _, _, _, _, e⟩ := v_dup2 hm; exact up_eq e
  case pop => obtain ⟨_, _, _, _, _, _, _, e⟩ := v_pop hm; exact up_eq e
  case pop2 => obtain ⟨_, _, _, _, _, _, _, e⟩ := v_pop2 hm; exact up_eq e
  case iadd => obtain ⟨_, _, _, _, _, _, _, e⟩ := v_ii hm; exact up_eq e
  case isub => obtain ⟨_, _, _, _, _, _, _, e⟩ := v_ii hm; exact up_eq e
  case imul => obtain ⟨_, _, _, _, _, _, _, e⟩ := v_ii hm; exact up_eq e
  case iand => obtain ⟨_, _, _, _, _, _, _, e⟩ := v_ii hm; exact up_eq e
  case ior => obtain ⟨_, _, _, _, _, _, _, e⟩ := v_ii hm; exact up_eq e
  case ixor => obtain ⟨_, _, _, _, _, _, _, e⟩ := v_ii hm; exact up_eq e
  case ishl => obtain ⟨_, _, _, _, _, _, _, e⟩ := v_ii hm; exact up_eq e
  case ishr => obtain ⟨_, _, _, _, _, _, _, e⟩ := v_ii hm; exact up_eq e
  case iushr => obtain ⟨_, _, _, _, _, _, _, e⟩ := v_ii hm; exact up_eq e
  case idiv => obtain ⟨_, _, _, _, _, _, _, _, e⟩ := v_id hm; exact up_eq e
  case irem => obtain ⟨_, _, _, _, _, _, _, _, e⟩ := v_id hm; exact up_eq e
  case ladd => obtain ⟨_, _, _, _, _, _, _, e⟩ := v_jj hm; exact up_eq e
  case lsub => obtain ⟨_, _, _, _, _, _, _, e⟩ := v_jj hm; exact up_eq e
  case lmul => obtain ⟨_, _, _, _, _, _, _, e⟩ := v_jj hm; exact up_eq e
  case ldiv => obtain ⟨_, _, _, _, _, _, _, _, e⟩ := v_jd hm; exact up_eq e
  case lrem => obtain ⟨_, _, _, _, _, _, _, _, e⟩ := v_jd hm; exact up_eq e
  case ineg => obtain ⟨_, _, _, _, _, _, e⟩ := v_i1 hm; exact up_eq e
  case i2l => obtain ⟨_, _, _, _, _, _, e⟩ := v_i1 hm; exact up_eq e
  case i2b => obtain ⟨_, _, _, _, _, _, e⟩ := v_i1 hm; exact up_eq e
  case i2s => obtain ⟨_, _, _, _, _, _, e⟩ := v_i1 hm; exact up_eq e
  case lshl => obtain ⟨_, _, _, _, _, _, _, e⟩ := v_lshl hm; exact up_eq e
  case lcmp => obtain ⟨_, _, _, _, _, _, _, e⟩ := v_lcmp hm; exact up_eq e
  case ifCond c off => obtain ⟨_, _, _, e, _⟩ := v_if hm; exact up_eq e
  case if_icmp c off => obtain ⟨_, _, _, _, e, _⟩ := v_icmp hm; exact up_eq e
  case goto off => cases hm; exact up_eq rfl
  case tableswitch d lo hi offs => exact u_sw hm
  case iaload => exact u_ald hm
  case baload => exact u_ald hm
  case iastore => exact u_ast hm
  case bastore => exact u_ast hm
  case aaload => exact u_aald hm
  case aastore => exact u_aast hm
  case arraylength => exact u_len hm
  case newarray t =>
    cases t
    case int => exact u_newa hm
    case boolean => exact u_newa hm
    all_goals exact nomatch (show (none : Option MO) = some _ from hm)
  case anewarray k => exact u_newq hm
  case multianewarray k d => exact u_newm hm
  case new k => exact up_nx hm (up_app _ _)
  case getfield k => exact u_get hm
  case putfield k => exact u_put hm
  case invokevirtual k => exact (n_cv hm).elim
  case invokestatic k =>
    simp only [mexec] at hm
    split at hm
    · exact u_cpy hm
    · obtain ⟨_, _, _, _, _, _, _, _, e⟩ := v_mm hm; exact up_eq e
    · obtain ⟨_, _, _, _, _, _, _, _, e⟩ := v_mm hm; exact up_eq e
    · obtain ⟨_, _, _, _, _, _, _, e⟩ := v_ma hm; exact up_eq e
    · exact (n_cs hm).elim
  case invokespecial k =>
    simp only [mexec] at hm
    split at hm
    · exact u_obj hm
    · exact (n_ci hm).elim
  case ireturn => exact (n_ret hm).elim
  case lreturn => exact (n_lret hm).elim
  case areturn => exact (n_aret hm).elim
  case return_ => exact (n_vret hm).elim
  all_goals exact nomatch (show (none : Option MO) = some _ from hm)
theorem m_up.trans {a b c : MH} (h1 : m_up a b) (h2 : m_up b c) : m_up a c := ⟨Nat.le_trans h1.1 h2.1, Nat.le_trans h1.2 h2.2⟩
theorem mrun_up (tab : List MM) (xs : List Int32) : ∀ (n : Nat) (fl : Bool) (M : MM) (i : Nat) (L : ML) (st : List Value) (h : MH) (r : Option Value) (h1 : MH), mrun tab xs n fl M i L st h = some (r, h1) → m_up h h1 := by
  intro n
  induction n with
  | zero => intro fl M i L st h r h1 hm; cases hm
  | succ n ih =>
    intro fl M i L st h r h1 hm
    rw [mrun_s] at hm
    unfold mbody at hm
    split at hm
    · cases hm
    · rename_i i2 L2 st2 h2 hs
      unfold mstep at hs
      split at hs
      · exact (mexec_up hs).trans (ih _ _ _ _ _ _ _ _ hm)
      · cases hs
    · split at hm
      · cases hm
      · have hm := (b_if hm).2
        split at hm
        · cases hm
        · rename_i r2 h2 hc
          exact (ih _ _ _ _ _ _ _ _ hc).trans (ih _ _ _ _ _ _ _ _ hm)
    · cases hm
      exact up_eq rfl
