/-! FROM THE UNCHECKED MACHINE TO PAIRS OF CALLS -/
def wkF (f g : AF) : Bool := match f, g with
  | .inl r, .inl q => r == q
  | .inr _, .inr (lo, hi, _) => decide (lo = -2147483648) && decide (hi = 2147483647)
  | _, _ => false
def wkC (c d : AC) : Bool := match c, d with
  | .inl (t, n, _, _, _), .inl (t2, n2, lo, hi, _) => t == t2 && (n == n2 && (decide (lo = -2147483648) && decide (hi = 2147483647)))
  | .inr (.inl (t, rs)), .inr (.inl (t2, qs)) => !(t == 99) && (t == t2 && rs == qs)
  | .inr (.inr (ci, fs)), .inr (.inr (cj, gs)) => ci == cj && (fs.length == gs.length && (List.range gs.length).all (fun k => match fs[k]?, gs[k]? with | some f, some g => wkF f g | _, _ => false))
  | _, _ => false
theorem wkF_ok {f g : AF} {v : Value} (h : wkF f g = true) (q : gF f v) : gF g v := by
  rcases f with r | ⟨lo, hi, fz⟩
  · rcases g with r2 | ⟨lo2, hi2, fz2⟩
    · have e : r = r2 := by simpa [wkF] using h
      subst e
      exact q
    · cases h
  · rcases g with r2 | ⟨lo2, hi2, fz2⟩
    · cases h
    · obtain ⟨h1, h2⟩ := b_and h
      have h1 := of_decide_eq_true h1
      have h2 := of_decide_eq_true h2
      obtain ⟨x, rfl, -, -⟩ := q
      exact ⟨x, rfl, by rw [h1]; exact i32_ge x, by rw [h2]; exact i32_le x⟩
theorem wkC_ok {c d : AC} {x : ME} (h : wkC c d = true) (q : gC c x) : gC d x := by
  rcases c with ⟨t, n, lo, hi, fz⟩ | ⟨t, rs⟩ | ⟨ci, fs⟩
  · rcases d with ⟨t2, n2, lo2, hi2, fz2⟩ | ⟨t2, qs⟩ | ⟨cj, gs⟩
    · obtain ⟨h1, h⟩ := b_and h
      obtain ⟨h2, h⟩ := b_and h
      obtain ⟨h3, h4⟩ := b_and h
      have h1 : t = t2 := by simpa using h1
      have h2 : n = n2 := by simpa using h2
      have h3 := of_decide_eq_true h3
      have h4 := of_decide_eq_true h4
      subst h1 h2
      obtain ⟨l, e, hl, -⟩ := q
      exact ⟨l, e, hl, fun z _ => ⟨by rw [h3]; exact i32_ge z, by rw [h4]; exact i32_le z⟩⟩
    · cases h
    · cases h
  · rcases d with ⟨t2, n2, lo2, hi2, fz2⟩ | ⟨t2, qs⟩ | ⟨cj, gs⟩
    · cases h
    · obtain ⟨-, h⟩ := b_and h
      obtain ⟨h2, h3⟩ := b_and h
      have h2 : t = t2 := by simpa using h2
      have h3 : rs = qs := by simpa using h3
      subst h2 h3
      exact q
    · cases h
  · rcases d with ⟨t2, n2, lo2, hi2, fz2⟩ | ⟨t2, qs⟩ | ⟨cj, gs⟩
    · cases h
    · cases h
    · obtain ⟨h1, h⟩ := b_and h
      obtain ⟨h2, h3⟩ := b_and h
      have h1 : ci = cj := by simpa using h1
      have h2 : fs.length = gs.length := by simpa using h2
      subst h1
      obtain ⟨vs, e, hl, hb⟩ := q
      refine ⟨vs, e, hl.trans h2, fun k g hg => ?_⟩
      have hk : k < gs.length := (List.getElem?_eq_some_iff.mp hg).1
      have w := List.all_eq_true.mp h3 k (List.mem_range.mpr hk)
      have hf : fs[k]? = some fs[k] := List.getElem?_eq_getElem (by omega)
      have w : (match fs[k]?, gs[k]? with | some f, some g => wkF f g | _, _ => false) = true := w
      rw [hf, hg] at w
      obtain ⟨v, hv, gv⟩ := hb k _ hf
      exact ⟨v, hv, wkF_ok w gv⟩
theorem wk_c : (List.range 123).all (fun a => match HCs[a]?, HU[a]? with | some c, some d => wkC c d | _, _ => false) = true := by decide +kernel
theorem wk_m : (List.range 30).all (fun a => match HMs[123 + a]?, HU[123 + a]? with | some c, some d => wkC c d | _, _ => false) = true := by decide +kernel
theorem hu_of {h : MH} (c : gH HCs h) (m : gH HMs h) : gH HU h := by
  refine ⟨by rw [HU_len, ← c.1, HCs_len], fun a d hd => ?_⟩
  have ha : a < 153 := by
    have := (List.getElem?_eq_some_iff.mp hd).1
    rw [HU_len] at this
    exact this
  by_cases q : a < 123
  · have w := List.all_eq_true.mp wk_c a (List.mem_range.mpr q)
    have w : (match HCs[a]?, HU[a]? with | some c, some d => wkC c d | _, _ => false) = true := w
    rw [hd] at w
    cases hc : HCs[a]? with
    | none => rw [hc] at w; cases w
    | some c0 =>
      rw [hc] at w
      obtain ⟨x, hx, gx⟩ := c.2 a c0 hc
      exact ⟨x, hx, wkC_ok w gx⟩
  · obtain ⟨b, rfl⟩ : ∃ b, a = 123 + b := ⟨a - 123, by omega⟩
    have w := List.all_eq_true.mp wk_m b (List.mem_range.mpr (by omega))
    have w : (match HMs[123 + b]?, HU[123 + b]? with | some c, some d => wkC c d | _, _ => false) = true := w
    rw [hd] at w
    cases hc : HMs[123 + b]? with
    | none => rw [hc] at w; cases w
    | some c0 =>
      rw [hc] at w
      obtain ⟨x, hx, gx⟩ := m.2 _ c0 hc
      exact ⟨x, hx, wkC_ok w gx⟩
/-- ranges, told of the ints -/
theorem rg_f {H : AH} {h : MH} {ci k a : Nat} {lo hi : Int} {fz : Bool} (g : gH H h) (hf : a_fd H ci k a = some (.inr (lo, hi, fz))) : lo ≤ (cI h a k).toInt ∧ (cI h a k).toInt ≤ hi := by
  obtain ⟨fs, vs, v, -, -, hx, -, hv, ⟨x, rfl, x1, x2⟩, -⟩ := fd_sp g hf
  have e : cI h a k = x := by unfold cI; rw [hx]; dsimp only; rw [hv]
  rw [e]
  exact ⟨x1, x2⟩
theorem rg_a {H : AH} {h : MH} {t n a j : Nat} {lo hi : Int} {fz : Bool} (g : gH H h) (hf : H[a]? = some (.inl (t, n, lo, hi, fz))) (hj : j < n) : lo ≤ (cI h a j).toInt ∧ (cI h a j).toInt ≤ hi := by
  obtain ⟨l, hx, hl, he, x1, x2⟩ := aI_sp g hf hj
  have e : cI h a j = aI h a j := by rw [cI_arr hx]; exact he
  rw [e]
  exact ⟨x1, x2⟩
/-- a pair of calls by pure runs -/
theorem PairOK.up {T T' : Option Value → Option Value → Prop} {y1 y2 : Nat} {as : List Value} {h : MH} {M1 M2 : MM} {K : SG → Prop} {QX : Option Value → SG → Prop} {QY : Option Value → SG → Option Value → SG → Prop} (p : PairOK J1 T y1 y2 as h) (hJ : J1 h) (e1 : m_tab[y1]? = some M1) (e2 : m_tab[y2]? = some M2) (m1 : y1 ∈ msU) (m2 : y2 ∈ msU) (kx : UP M1 0 (m_ent (mx M1) (.ref 0 :: as)) [] (cI h) QX) (km : ∀ r s1, QX r s1 → UP M2 0 (m_ent (mx M2) (.ref 123 :: as)) [] s1 (QY r s1)) (hT : ∀ r s1 r2 h2, QX r s1 → QY r s1 r2 (cI h2) → T r r2 → J1 h2 → T' r r2 ∧ K (cI h2)) : PairOK (fun h => J1 h ∧ K (cI h)) T' y1 y2 as h := by
  obtain ⟨N1, N2, r, h1, r2, h2, a, b, c, d, e, f, ⟨n1, g⟩, ⟨n2, k⟩, t, q⟩ := p
  rw [e1] at a
  rw [e2] at b
  cases a
  cases b
  obtain ⟨u1, g1⟩ := usim n1 y1 M1 0 _ _ [] h r h1 m1 e1 (hu_of hJ.1 hJ.2.1) (lqL.rf _) g
  obtain ⟨u2, g2⟩ := usim n2 y2 M2 0 _ _ [] h1 r2 h2 m2 e2 g1 (lqL.rf _) k
  have x1 := kx n1 _ u1
  have x2 := km r (cI h1) x1 n2 _ u2
  obtain ⟨t', j'⟩ := hT r _ r2 h2 x1 x2 t q
  exact ⟨M1, M2, r, h1, r2, h2, e1, e2, c, d, e, f, ⟨n1, g⟩, ⟨n2, k⟩, t', q, j'⟩
