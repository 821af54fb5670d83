/-! rules for runs that are walked by hand; Euclid's loop -/
section RNH
variable {fl : Bool} {xs : List Int32} {M : MM} {i : Nat} {L : ML} {st : List Value} {h : MH} {q : Option Value × MH} {c : Jvm.ClassFile.Cond} {pc len : Nat} {off : Int} {ops : List Int}
theorem Rn.ifT {x : Int32} (hrow : (mc M)[i]? = some (pc, .ifCond c off, len, ops)) (hc : m_cmp c x 0 = true) (k : Rn fl xs M (m_n ops 0) L st h q) : Rn fl xs M i L (.int x :: st) h q := by
  refine Rn.step (i1 := m_n ops 0) (L1 := L) (st1 := st) (h1 := h) ?_ k
  unfold mstep
  rw [hrow]
  show (bif m_cmp c x 0 then _ else _) = _
  rw [hc]
  rfl
theorem Rn.ifF {x : Int32} (hrow : (mc M)[i]? = some (pc, .ifCond c off, len, ops)) (hc : m_cmp c x 0 = false) (k : Rn fl xs M (i + 1) L st h q) : Rn fl xs M i L (.int x :: st) h q := by
  refine Rn.step (i1 := i + 1) (L1 := L) (st1 := st) (h1 := h) ?_ k
  unfold mstep
  rw [hrow]
  show (bif m_cmp c x 0 then _ else _) = _
  rw [hc]
  rfl
theorem Rn.icT {x y : Int32} (hrow : (mc M)[i]? = some (pc, .if_icmp c off, len, ops)) (hc : m_cmp c x y = true) (k : Rn fl xs M (m_n ops 0) L st h q) : Rn fl xs M i L (.int y :: .int x :: st) h q := by
  refine Rn.step (i1 := m_n ops 0) (L1 := L) (st1 := st) (h1 := h) ?_ k
  unfold mstep
  rw [hrow]
  show (bif m_cmp c x y then _ else _) = _
  rw [hc]
  rfl
theorem Rn.icF {x y : Int32} (hrow : (mc M)[i]? = some (pc, .if_icmp c off, len, ops)) (hc : m_cmp c x y = false) (k : Rn fl xs M (i + 1) L st h q) : Rn fl xs M i L (.int y :: .int x :: st) h q := by
  refine Rn.step (i1 := i + 1) (L1 := L) (st1 := st) (h1 := h) ?_ k
  unfold mstep
  rw [hrow]
  show (bif m_cmp c x y then _ else _) = _
  rw [hc]
  rfl
end RNH
theorem l_rem_eq (x y : Int64) : (x - x / y * y).toInt = x.toInt.tmod y.toInt := by
  have h1 : (x - x / y * y).toInt = (x.toInt - x.toInt.tdiv y.toInt * y.toInt).bmod (2 ^ 64) := by
    rw [Int64.toInt_sub, Int64.toInt_mul, Int64.toInt_div]
    simp [Int.sub_bmod_bmod, Int.bmod_mul_bmod]
  have h2 : x.toInt - x.toInt.tdiv y.toInt * y.toInt = x.toInt.tmod y.toInt := by
    have := Int.mul_tdiv_add_tmod x.toInt y.toInt
    rw [Int.mul_comm] at this
    omega
  rw [h1, h2]
  have hx1 := Int64.le_toInt x
  have hx2 := Int64.toInt_lt x
  have hb : (x.toInt.tmod y.toInt).natAbs ≤ x.toInt.natAbs := by
    rw [Int.natAbs_tmod]
    exact Nat.mod_le _ _
  apply Int.bmod_eq_of_le
  · rcases Int.lt_or_le x.toInt 0 with hneg | hpos
    · have hs : x.toInt.tmod y.toInt ≤ 0 := by
        have := Int.tmod_nonneg (a := -x.toInt) y.toInt (by omega)
        rw [Int.neg_tmod] at this
        omega
      omega
    · have := Int.tmod_nonneg (a := x.toInt) y.toInt hpos
      omega
  · rcases Int.lt_or_le x.toInt 0 with hneg | hpos
    · have hs : x.toInt.tmod y.toInt ≤ 0 := by
        have := Int.tmod_nonneg (a := -x.toInt) y.toInt (by omega)
        rw [Int.neg_tmod] at this
        omega
      omega
    · omega
theorem l_rem_lt (x y : Int64) (hy : ¬ y = 0) : (x - x / y * y).toInt.natAbs < y.toInt.natAbs := by
  rw [l_rem_eq, Int.natAbs_tmod]
  apply Nat.mod_lt
  apply Nat.pos_of_ne_zero
  intro e
  apply hy
  apply Int64.toInt_inj.mp
  have : y.toInt = 0 := Int.natAbs_eq_zero.mp e
  rw [this]
  rfl
theorem lg_cmp_0 (y : Int64) : lg_cmp y 0 = 0 ↔ y = 0 := by
  unfold lg_cmp
  constructor
  · intro h
    split at h
    · exact absurd h (by decide)
    · split at h
      · assumption
      · exact absurd h (by decide)
  · intro h
    subst h
    decide
theorem low_fin (t b x : Int64) (w : Int32) (y : Int64) (l9 : Option Value) (h : MH) (hx : ¬ x = 0) : ∃ r, Rn false [] m_X7_lowest 17 [some (.long t), none, some (.long b), none, some (.int w), some (.long x), none, some (.long y), none, l9, none] [] h (some (.long r), h) := by
  by_cases hw : w = 0
  · refine ⟨t / x, ?_⟩
    refine Rn.step rfl ?_
    refine Rn.ifF rfl (by simp [m_cmp, hw]) ?_
    refine Rn.step rfl ?_
    refine Rn.step rfl ?_
    refine Rn.step (i1 := 22) (L1 := [some (.long t), none, some (.long b), none, some (.int w), some (.long x), none, some (.long y), none, l9, none]) (st1 := [.long (t / x)]) (h1 := h) ?_ ?_
    · show (if x = 0 then none else _) = _
      rw [if_neg hx]
      rfl
    refine Rn.step rfl ?_
    exact Rn.ret rfl
  · refine ⟨b / x, ?_⟩
    refine Rn.step rfl ?_
    refine Rn.ifT rfl (by simp [m_cmp, hw]) ?_
    refine Rn.step rfl ?_
    refine Rn.step rfl ?_
    refine Rn.step (i1 := 26) (L1 := [some (.long t), none, some (.long b), none, some (.int w), some (.long x), none, some (.long y), none, l9, none]) (st1 := [.long (b / x)]) (h1 := h) ?_ ?_
    · show (if x = 0 then none else _) = _
      rw [if_neg hx]
      rfl
    exact Rn.ret rfl
theorem low_loop (t b : Int64) (w : Int32) (h : MH) : ∀ (N : Nat) (x y : Int64) (l9 : Option Value), y.toInt.natAbs ≤ N → (y = 0 → ¬ x = 0) → ∃ r, Rn false [] m_X7_lowest 4 [some (.long t), none, some (.long b), none, some (.int w), some (.long x), none, some (.long y), none, l9, none] [] h (some (.long r), h) := by
  intro N
  induction N with
  | zero =>
    intro x y l9 hN hx
    have hy : y = 0 := Int64.toInt_inj.mp (by have : y.toInt = 0 := by omega
                                              rw [this]; rfl)
    obtain ⟨r, hr⟩ := low_fin t b x w y l9 h (hx hy)
    refine ⟨r, ?_⟩
    refine Rn.step rfl ?_
    refine Rn.step rfl ?_
    refine Rn.step rfl ?_
    exact Rn.ifT rfl (decide_eq_true ((lg_cmp_0 y).mpr hy)) hr
  | succ N ih =>
    intro x y l9 hN hx
    by_cases hy : y = 0
    · obtain ⟨r, hr⟩ := low_fin t b x w y l9 h (hx hy)
      refine ⟨r, ?_⟩
      refine Rn.step rfl ?_
      refine Rn.step rfl ?_
      refine Rn.step rfl ?_
      exact Rn.ifT rfl (decide_eq_true ((lg_cmp_0 y).mpr hy)) hr
    · have hlt := l_rem_lt x y hy
      obtain ⟨r, hr⟩ := ih y (x - x / y * y) (some (.long (x - x / y * y))) (by omega) (fun _ => hy)
      refine ⟨r, ?_⟩
      refine Rn.step rfl ?_
      refine Rn.step rfl ?_
      refine Rn.step rfl ?_
      refine Rn.ifF rfl (decide_eq_false (fun e => hy ((lg_cmp_0 y).mp e))) ?_
      refine Rn.step rfl ?_
      refine Rn.step rfl ?_
      refine Rn.step (i1 := 11) (L1 := [some (.long t), none, some (.long b), none, some (.int w), some (.long x), none, some (.long y), none, l9, none]) (st1 := [.long (x - x / y * y)]) (h1 := h) ?_ ?_
      · show (if y = 0 then none else _) = _
        rw [if_neg hy]
        rfl
      refine Rn.step (i1 := 12) (L1 := [some (.long t), none, some (.long b), none, some (.int w), some (.long x), none, some (.long y), none, some (.long (x - x / y * y)), none]) (st1 := []) (h1 := h) rfl ?_
      refine Rn.step rfl ?_
      refine Rn.step (i1 := 14) (L1 := [some (.long t), none, some (.long b), none, some (.int w), some (.long y), none, some (.long y), none, some (.long (x - x / y * y)), none]) (st1 := []) (h1 := h) rfl ?_
      refine Rn.step rfl ?_
      refine Rn.step (i1 := 16) (L1 := [some (.long t), none, some (.long b), none, some (.int w), some (.long y), none, some (.long (x - x / y * y)), none, some (.long (x - x / y * y)), none]) (st1 := []) (h1 := h) rfl ?_
      refine Rn.step (i1 := 4) rfl ?_
      exact hr
def ct_low : CT := (95, [.inr (.inr 0), .inr (.inr 1), .inl (-2147483648, 2147483647, none)], [(some (.inr (.inr 0)), [])])
theorem p_low (H : AH) : CtP H ct_low := by
  refine ⟨?_, ?_, rfl⟩
  · intro M1 hM as h gs gh
    have hM : some m_X7_lowest = some M1 := hM
    cases hM
    obtain ⟨v1, vs1, rfl, g1, gs1⟩ := gS_c gs
    obtain ⟨v2, vs2, rfl, g2, gs2⟩ := gS_c gs1
    obtain ⟨v3, vs3, rfl, g3, gs3⟩ := gS_c gs2
    have e := gS_n gs3
    subst e
    obtain ⟨t, rfl, -⟩ := g1
    obtain ⟨b, rfl, hb, -⟩ := g2
    obtain ⟨w, rfl, -⟩ := g3
    refine ⟨rfl, ?_⟩
    obtain ⟨r, hr⟩ := low_loop t b w h b.toInt.natAbs t b none (Nat.le_refl _) (fun e => absurd e (hb (Nat.le_refl 1)))
    refine ⟨some (.long r), h, (some (.inr (.inr 0)), []), List.mem_singleton.mpr rfl, ?_, gV_l [] r, gh, fH.rf H h, fun q hq => absurd hq List.not_mem_nil⟩
    refine Rn.step rfl ?_
    refine Rn.step (i1 := 2) (L1 := [some (.long t), none, some (.long b), none, some (.int w), some (.long t), none, none, none, none, none]) (st1 := []) (h1 := h) rfl ?_
    refine Rn.step rfl ?_
    refine Rn.step (i1 := 4) (L1 := [some (.long t), none, some (.long b), none, some (.int w), some (.long t), none, some (.long b), none, none, none]) (st1 := []) (h1 := h) rfl ?_
    exact hr
  · intro alt ha a e
    have := List.mem_singleton.mp ha
    subst this
    cases e
    rfl
