/-! runs that keep KF, whatever they answer: by the number of steps -/
def UPB (n : Nat) (M : MM) (i : Nat) (L : ML) (st : List Value) (s : SG) (P : Option Value → SG → Prop) : Prop := ∀ m q, m < n → urun m M i L st s = some q → P q.1 q.2
theorem UP.of_b {M : MM} {i : Nat} {L : ML} {st : List Value} {s : SG} {P : Option Value → SG → Prop} (h : ∀ n, UPB n M i L st s P) : UP M i L st s P := fun n q hq => h (n + 1) n q (by omega) hq
section UPBS
variable {n : Nat} {M M1 : MM} {i y : Nat} {L : ML} {st : List Value} {s : SG} {P : Option Value → SG → Prop} {c : Jvm.ClassFile.Cond} {pc len : Nat} {off : Int} {ops : List Int}
theorem UPB.zero : UPB 0 M i L st s P := fun m q h _ => absurd h (by omega)
theorem UPB.wk (h : UPB (n + 1) M i L st s P) : UPB n M i L st s P := fun m q hm hq => h m q (by omega) hq
theorem UPB.one {i1 : Nat} {L1 : ML} {st1 : List Value} {s1 : SG} (hs : ustep M i L st s = some (.inl (i1, L1, st1, s1))) (k : UPB n M i1 L1 st1 s1 P) : UPB (n + 1) M i L st s P := by
  intro m q hm hq
  cases m with
  | zero => cases hq
  | succ m =>
    rw [urun_s] at hq
    unfold ubody at hq
    rw [hs] at hq
    exact k m q (by omega) hq
theorem UPB.stp : ∀ (k : Nat) {i i1 : Nat} {L L1 : ML} {st st1 : List Value} {s s1 : SG}, ustp k M (i, L, st, s) = some (i1, L1, st1, s1) → UPB n M i1 L1 st1 s1 P → UPB n M i L st s P
  | 0, i, i1, L, L1, st, st1, s, s1, hs, k => by cases hs; exact k
  | m + 1, i, i1, L, L1, st, st1, s, s1, hs, k => by
    have hs : (match ustep M i L st s with | some (.inl y) => ustp m M y | _ => none) = some (i1, L1, st1, s1) := hs
    split at hs
    · rename_i y he
      obtain ⟨i2, L2, st2, s2⟩ := y
      exact (UPB.one he (UPB.stp m hs k)).wk
    · cases hs
/-- the first step of a loop's head -/
theorem UPB.hd (k : Nat) {i1 : Nat} {L1 : ML} {st1 : List Value} {s1 : SG} (hs : ustp (k + 1) M (i, L, st, s) = some (i1, L1, st1, s1)) (h : UPB n M i1 L1 st1 s1 P) : UPB (n + 1) M i L st s P := by
  have hs : (match ustep M i L st s with | some (.inl y) => ustp k M y | _ => none) = some (i1, L1, st1, s1) := hs
  split at hs
  · rename_i y he
    obtain ⟨i2, L2, st2, s2⟩ := y
    exact UPB.one he (UPB.stp k hs h)
  · cases hs
theorem UPB.ret {r : Option Value} (hs : ustep M i L st s = some (.inr (.inr r))) (hp : P r s) : UPB n M i L st s P := fun m q _ hq => (UP.ret hs hp) m q hq
theorem UPB.call {as rest : List Value} {P1 : Option Value → SG → Prop} (hs : ustep M i L st s = some (.inr (.inl (y, as, rest)))) (hy : m_tab[y]? = some M1) (kc : UP M1 0 (m_ent (mx M1) as) [] s P1) (k : ∀ r s1, P1 r s1 → UPB n M (i + 1) L (r.toList ++ rest) s1 P) : UPB n M i L st s P := by
  intro m q hm hq
  cases m with
  | zero => cases hq
  | succ m =>
    rw [urun_s] at hq
    unfold ubody at hq
    rw [hs] at hq
    dsimp only at hq
    rw [hy] at hq
    dsimp only at hq
    split at hq
    · cases hq
    · rename_i r s1 hc
      exact k r s1 (kc m _ hc) m q (by omega) hq
theorem UPB.ic {x y : Int32} (hrow : (mc M)[i]? = some (pc, .if_icmp c off, len, ops)) (k1 : UPB n M (m_n ops 0) L st s P) (k2 : UPB n M (i + 1) L st s P) : UPB n M i L (.int y :: .int x :: st) s P := by
  cases hc : m_cmp c x y with
  | true =>
    refine UPB.wk (UPB.one ?_ k1)
    unfold ustep
    rw [hrow]
    show (bif m_cmp c x y then some (Sum.inl (m_n ops 0, [], st, [])) else o_nx i [] st []).map (uo L s) = _
    rw [hc]
    rfl
  | false =>
    refine UPB.wk (UPB.one ?_ k2)
    unfold ustep
    rw [hrow]
    show (bif m_cmp c x y then some (Sum.inl (m_n ops 0, [], st, [])) else o_nx i [] st []).map (uo L s) = _
    rw [hc]
    rfl
theorem UPB.ifc {x : Int32} (hrow : (mc M)[i]? = some (pc, .ifCond c off, len, ops)) (k1 : UPB n M (m_n ops 0) L st s P) (k2 : UPB n M (i + 1) L st s P) : UPB n M i L (.int x :: st) s P := by
  cases hc : m_cmp c x 0 with
  | true =>
    refine UPB.wk (UPB.one ?_ k1)
    unfold ustep
    rw [hrow]
    show (bif m_cmp c x 0 then some (Sum.inl (m_n ops 0, [], st, [])) else o_nx i [] st []).map (uo L s) = _
    rw [hc]
    rfl
  | false =>
    refine UPB.wk (UPB.one ?_ k2)
    unfold ustep
    rw [hrow]
    show (bif m_cmp c x 0 then some (Sum.inl (m_n ops 0, [], st, [])) else o_nx i [] st []).map (uo L s) = _
    rw [hc]
    rfl
end UPBS
def KI (r : Option Value) (s1 : SG) : Prop := (∃ x, r = some (.int x)) ∧ KF s1
def KL (r : Option Value) (s1 : SG) : Prop := (∃ x, r = some (.long x)) ∧ KF s1
section UPBK
variable {n : Nat} {M M1 : MM} {i y : Nat} {L : ML} {st : List Value} {s : SG} {P : Option Value → SG → Prop}
theorem UPB.cI {as rest : List Value} (hs : ustep M i L st s = some (.inr (.inl (y, as, rest)))) (hy : m_tab[y]? = some M1) (kc : UP M1 0 (m_ent (mx M1) as) [] s KI) (k : ∀ x s1, KF s1 → UPB n M (i + 1) L (.int x :: rest) s1 P) : UPB n M i L st s P := UPB.call hs hy kc (fun r s1 q => by obtain ⟨⟨x, rfl⟩, q⟩ := q; exact k x s1 q)
theorem UPB.cL {as rest : List Value} (hs : ustep M i L st s = some (.inr (.inl (y, as, rest)))) (hy : m_tab[y]? = some M1) (kc : UP M1 0 (m_ent (mx M1) as) [] s KL) (k : ∀ x s1, KF s1 → UPB n M (i + 1) L (.long x :: rest) s1 P) : UPB n M i L st s P := UPB.call hs hy kc (fun r s1 q => by obtain ⟨⟨x, rfl⟩, q⟩ := q; exact k x s1 q)
end UPBK
theorem KI_b {M : MM} {i : Nat} {L : ML} {st : List Value} {s : SG} {T : Int32 × SG} (k : UP M i L st s (Qb T)) (h : KF T.2) : UP M i L st s KI := k.mono (fun r s1 q => ⟨⟨_, q.1⟩, by rw [q.2]; exact h⟩)
theorem KI_i {M : MM} {i : Nat} {L : ML} {st : List Value} {s : SG} {T : Int32} (k : UP M i L st s (Qi s T)) (h : KF s) : UP M i L st s KI := k.mono (fun r s1 q => ⟨⟨_, q.1⟩, by rw [q.2]; exact h⟩)
theorem kb {x y : Int32 × SG} {b : Bool} (h1 : KF x.2) (h2 : KF y.2) : KF (bif b then x else y).2 := by
  cases b
  · exact h2
  · exact h1
/-! the class's own calls keep KF -/
theorem kf_at {s : SG} (h : KF s) (a b : Int32) : KF (F_cat s a b).2 := by
  have t := (tt h).1
  dsimp only [F_cat]
  exact kb (kb t (kb t (kb t (kb t (kb t t))))) h
theorem kf_pulls {s : SG} (h : KF s) (a b : Int32) : KF (F_cpulls s a b).2 := by
  have t := (tt h).1
  dsimp only [F_cpulls]
  exact kb h (kb t h)
theorem kf_done {s : SG} (h : KF s) (a b : Int32) : KF (F_cdone s a b).2 := by
  have t := (tt h).1
  dsimp only [F_cdone]
  exact kb h (kb t h)
theorem kf_there {s : SG} (h : KF s) : KF (F_cthere s).2 := (tt h).1
theorem kf_grounded {s : SG} (h : KF s) (a : Int32) : KF (F_cgrounded s a).2 := by
  have t := (tt h).1
  dsimp only [F_cgrounded]
  exact kb t h
theorem kf_stray {s : SG} (h : KF s) (a : Int32) : KF (F_cstray s a).2 := by
  have t := (tt h).1
  dsimp only [F_cstray]
  exact kb t h
theorem kf_best {s : SG} (h : KF s) : KF (F_cbest s).2 := (tt h).1
theorem kf_idle {s : SG} (h : KF s) : KF (F_cidle s).2 := (tt h).1
theorem kf_swap {s : SG} (h : KF s) (a : Int32) : KF (F_cswap s a).2 := h.ag ((fr_cswapN s a).ag DF rfl)
theorem kf_steer {s : SG} (h : KF s) (a b : Int32) : KF (F_csteer s a b).2 := h.ag ((fr_csteerN s a b).ag DF rfl)
theorem kf_stroke {s : SG} (h : KF s) (a b : Int32) : KF (F_cstroke s a b).2 := h.ag ((fr_cstrokeN s a b).ag DF rfl)
theorem kf_years {s : SG} (h : KF s) (a b c : Int32) : KF (F_cyears s a b c).2 := h.ag ((fr_cyearsN s a b c).ag DF rfl)
theorem kf_never {s : SG} (h : KF s) : KF (F_cnever s).2 := h.ag ((fr_cneverN s).ag DF rfl)
theorem kf_was {s : SG} (h : KF s) (a b : Int32) : KF (F_cwas s a b).2 := h.ag ((fr_cwasN s a b).ag DF rfl)
theorem kf_ask {s : SG} (h : KF s) (a : Int32) : KF (F_cask s a).2 := h.ag ((fr_caskN s a).ag DF rfl)
/-! the groundings that are kept at hand -/
theorem inCc (s : SG) (m : Int32) : inC_c s m = inC_a s m := rfl
theorem fa_b {z : SG} {J : TI} (h : OuC_c J 24 z) : F_firstAground_b z = gfi J 24 := fstG (f := z 63) (B := B_firstAground_b_2 z) (fun t ht => (h t ht).2.2.2.2.1) (fun _ _ => rfl) 24 0 rfl rfl
/-- the first minute aground under a mask: what it answers, what stays -/
theorem faw {s : SG} (h : KF s) (mask : Int32) : KF (F_firstAgroundWith s mask).2 ∧ Ag DG s (F_firstAgroundWith s mask).2 ∧ (bl mask 256 = true → (F_firstAgroundWith s mask).1 = gfi (inC_a s mask) 24) := by
  have key : ∃ v : SG, (bif m_cmp .eq (s 0 13) 0 then s else (uset (fil s 96 256 (-9)) 0 13 0)) = v ∧ KF v ∧ Ag DG s v ∧ m_cmp .eq (v 0 13) 0 = true := by
    cases q : m_cmp .eq (s 0 13) 0 with
    | true => exact ⟨s, rfl, h, Ag.rf _ _, q⟩
    | false =>
      refine ⟨uset (fil s 96 256 (-9)) 0 13 0, rfl, ?_, ?_, rfl⟩
      · have f : Fr [(96, 96, none), (0, 0, some 13)] s (uset (fil s 96 256 (-9)) 0 13 0) := Fr.uset rfl (Fr.fil rfl (Fr.rf _ _))
        refine ⟨h.1.ag (f.ag DG rfl), fun w => ?_, fun _ m hm => Or.inl ?_⟩
        · rw [f 0 12 rfl] at w
          exact (h.2.1 w).ag (f.ag DTC rfl)
        · rw [uset_na (by decide)]
          exact fil_eq hm
      · have f : Fr [(96, 96, none), (0, 0, some 13)] s (uset (fil s 96 256 (-9)) 0 13 0) := Fr.uset rfl (Fr.fil rfl (Fr.rf _ _))
        exact f.ag DG rfl
  obtain ⟨v, ev, kv, av, sv⟩ := key
  have eF : F_firstAgroundWith s mask = bif m_cmp .ne (F_isBelow (bif m_cmp .eq (s 0 13) 0 then s else (uset (fil s 96 256 (-9)) 0 13 0)) mask 256) 0 then ((bif m_cmp .ne ((bif m_cmp .eq (s 0 13) 0 then s else (uset (fil s 96 256 (-9)) 0 13 0)) 96 mask.toNatClampNeg) (-9) then (bif m_cmp .eq (s 0 13) 0 then s else (uset (fil s 96 256 (-9)) 0 13 0)) else (uset (F_row_c (bif m_cmp .eq (s 0 13) 0 then s else (uset (fil s 96 256 (-9)) 0 13 0)) mask) 96 mask.toNatClampNeg (F_firstAground_b (F_row_c (bif m_cmp .eq (s 0 13) 0 then s else (uset (fil s 96 256 (-9)) 0 13 0)) mask)))) 96 mask.toNatClampNeg, (bif m_cmp .ne ((bif m_cmp .eq (s 0 13) 0 then s else (uset (fil s 96 256 (-9)) 0 13 0)) 96 mask.toNatClampNeg) (-9) then (bif m_cmp .eq (s 0 13) 0 then s else (uset (fil s 96 256 (-9)) 0 13 0)) else (uset (F_row_c (bif m_cmp .eq (s 0 13) 0 then s else (uset (fil s 96 256 (-9)) 0 13 0)) mask) 96 mask.toNatClampNeg (F_firstAground_b (F_row_c (bif m_cmp .eq (s 0 13) 0 then s else (uset (fil s 96 256 (-9)) 0 13 0)) mask))))) else (((-1), (bif m_cmp .eq (s 0 13) 0 then s else (uset (fil s 96 256 (-9)) 0 13 0)))) := rfl
  rw [ev, bl_n] at eF
  have eJ : inC_a v mask = inC_a s mask := inC_ag (av.sub rfl) mask
  cases q : bl mask 256 with
  | false =>
    rw [q, kF] at eF
    rw [eF]
    exact ⟨kv, av, fun w => by cases w⟩
  | true =>
    rw [q, kT] at eF
    rw [eF]
    obtain ⟨em, lm⟩ := bl_ofn q
    have lm : mask.toNatClampNeg < 256 := lm
    have gv := kv.2.2 sv
    cases q2 : m_cmp .ne (v 96 mask.toNatClampNeg) (-9) with
    | true =>
      rw [kT]
      refine ⟨kv, av, fun _ => ?_⟩
      dsimp only
      rcases gv _ lm with e | e
      · rw [e] at q2; cases q2
      · rw [e, ← em, eJ]
    | false =>
      rw [kF]
      dsimp only
      obtain ⟨m, p, R⟩ := rowC_c (s := v) (mask := mask) (row8 kv.1.1.1 kv.1.2.1.1) kv.1.2.2.1.2.2.2.2.1
      generalize F_row_c v mask = z at *
      obtain ⟨f, -, -, -, -, -, r4⟩ := R
      have f : Fr W_row_c v z := f
      have r4 : OuC_c (inC_c v mask) 24 z := r4
      have e1 : F_firstAground_b z = gfi (inC_a s mask) 24 := by
        rw [fa_b r4, inCc, eJ]
      rw [e1]
      have fz : Fr [(96, 96, none)] z (uset z 96 mask.toNatClampNeg (gfi (inC_a s mask) 24)) := Fr.uset rfl (Fr.rf _ _)
      have ft : Fr [(59, 63, none), (65, 88, none), (89, 95, none), (58, 58, some 8), (96, 96, none)] v (uset z 96 mask.toNatClampNeg (gfi (inC_a s mask) 24)) := (f.wk rfl).tr (fz.wk rfl)
      refine ⟨⟨kv.1.ag (ft.ag DG rfl), fun w => ?_, fun _ m hm => ?_⟩, av.tr (ft.ag DG rfl), fun _ => uset_eq _ _ _ _⟩
      · rw [ft 0 12 rfl] at w
        exact (kv.2.1 w).ag (ft.ag DTC rfl)
      · rw [inC_ag (ft.ag DJ rfl)]
        by_cases w : m = mask.toNatClampNeg
        · right
          rw [w, ← em, eJ]
          exact uset_eq _ _ _ _
        · rw [uset_nj w, f 96 m rfl]
          exact gv m hm
theorem kf_iab {s : SG} (h : KF s) (a b : Int32) : KF (F_isAgroundBy s a b).2 := (faw h b).1
