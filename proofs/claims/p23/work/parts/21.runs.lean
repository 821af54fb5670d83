/-! RUNS: what a run of the small machine comes to, however many steps it takes -/
def Rn (fl : Bool) (xs : List Int32) (M : MM) (i : Nat) (L : ML) (st : List Value) (h : MH) (q : Option Value × MH) : Prop := ∃ n, mrun m_tab xs n fl M i L st h = some q
theorem mrun_mono (xs : List Int32) : ∀ (n : Nat) (fl : Bool) (M : MM) (i : Nat) (L : ML) (st : List Value) (h : MH) (q : Option Value × MH), mrun m_tab xs n fl M i L st h = some q → ∀ k, mrun m_tab xs (n + k) fl M i L st h = some q := by
  intro n
  induction n with
  | zero => intro fl M i L st h q hm; cases hm
  | succ n ih =>
    intro fl M i L st h q hm k
    rw [show n + 1 + k = (n + k) + 1 by omega, mrun_s]
    rw [mrun_s] at hm
    unfold mbody at hm ⊢
    split at hm
    · cases hm
    · exact ih _ _ _ _ _ _ _ hm k
    · split at hm
      · cases hm
      · obtain ⟨g1, hm⟩ := b_if hm
        rw [g1]
        split at hm
        · cases hm
        · rename_i r2 h2 hc
          rw [ih _ _ _ _ _ _ _ hc k]
          exact ih _ _ _ _ _ _ _ hm k
    · exact hm
theorem Rn.step {fl : Bool} {xs : List Int32} {M : MM} {i i1 : Nat} {L L1 : ML} {st st1 : List Value} {h h1 : MH} {q : Option Value × MH} (hs : mstep fl xs M i L st h = some (.inl (i1, L1, st1, h1))) (k : Rn fl xs M i1 L1 st1 h1 q) : Rn fl xs M i L st h q := by
  obtain ⟨n, k⟩ := k
  refine ⟨n + 1, ?_⟩
  rw [mrun_s]
  unfold mbody
  rw [hs]
  exact k
theorem Rn.call {fl : Bool} {xs : List Int32} {M M1 : MM} {i y : Nat} {L : ML} {st as rest : List Value} {h h1 : MH} {r : Option Value} {q : Option Value × MH} (hs : mstep fl xs M i L st h = some (.inr (.inl (y, as, rest)))) (hy : m_tab[y]? = some M1) (ha : Nat.ble (entL as).length (mx M1) = true) (kc : Rn false xs M1 0 (m_ent (mx M1) as) [] h (r, h1)) (k : Rn fl xs M (i + 1) L (r.toList ++ rest) h1 q) : Rn fl xs M i L st h q := by
  obtain ⟨n1, kc⟩ := kc
  obtain ⟨n2, k⟩ := k
  refine ⟨n1 + n2 + 1, ?_⟩
  rw [mrun_s]
  unfold mbody
  rw [hs]
  dsimp only
  rw [hy]
  dsimp only
  rw [ha, mrun_mono xs n1 _ _ _ _ _ _ _ kc n2]
  dsimp only [cond_true]
  rw [Nat.add_comm n1 n2]
  exact mrun_mono xs n2 _ _ _ _ _ _ _ k n1
theorem Rn.ret {fl : Bool} {xs : List Int32} {M : MM} {i : Nat} {L : ML} {st : List Value} {h : MH} {r : Option Value} (hs : mstep fl xs M i L st h = some (.inr (.inr r))) : Rn fl xs M i L st h (r, h) := by
  refine ⟨1, ?_⟩
  rw [mrun_s]
  unfold mbody
  rw [hs]
theorem mexec_f (xs ys : List Int32) (ins : Instr) (ops : List Int) (i : Nat) (L : ML) (st : List Value) (h : MH) : mexec false xs ins ops i L st h = mexec false ys ins ops i L st h := by
  cases ins <;> first | rfl | (simp only [mexec, o_ald, o_len, Bool.false_and, cond_false])
theorem mstep_f (xs ys : List Int32) (M : MM) (i : Nat) (L : ML) (st : List Value) (h : MH) : mstep false xs M i L st h = mstep false ys M i L st h := by
  unfold mstep
  split
  · exact mexec_f xs ys _ _ _ _ _ _
  · rfl
/-- who can't read the script runs the same on every script -/
theorem mrun_f (xs ys : List Int32) : ∀ (n : Nat) (M : MM) (i : Nat) (L : ML) (st : List Value) (h : MH), mrun m_tab xs n false M i L st h = mrun m_tab ys n false M i L st h := by
  intro n
  induction n with
  | zero => intros; rfl
  | succ n ih =>
    intro M i L st h
    rw [mrun_s, mrun_s]
    unfold mbody
    rw [mstep_f xs ys]
    split
    · rfl
    · exact ih _ _ _ _ _
    · split
      · rfl
      · rw [ih]
        split
        · rfl
        · rw [ih]
    · rfl
theorem Rn.of {xs : List Int32} {n : Nat} {M : MM} {i : Nat} {L : ML} {st : List Value} {h : MH} {q : Option Value × MH} (e : mrun m_tab [] n false M i L st h = some q) : Rn false xs M i L st h q := ⟨n, (mrun_f xs [] n M i L st h).trans e⟩
theorem Rn.xs {xs ys : List Int32} {M : MM} {i : Nat} {L : ML} {st : List Value} {h : MH} {q : Option Value × MH} (e : Rn false ys M i L st h q) : Rn false xs M i L st h q := by
  obtain ⟨n, e⟩ := e
  exact ⟨n, (mrun_f xs ys n M i L st h).trans e⟩
