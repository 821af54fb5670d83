theorem gma_s (J : TI) (i : Nat) : gma J (i + 1) = gma J i + gr' J i (trip J i) := by
  unfold gma
  rw [itr_0]
theorem gfi_s (J : TI) (i : Nat) : gfi J (i + 1) = (bif m_cmp .eq (gr' J i (trip J i)) 0 then gfi J i else (bif m_cmp .ne (gfi J i) (-1) then gfi J i else Int32.ofNat i)) := by
  unfold gfi
  rw [itr_0]
theorem far_s (J : TI) (i : Nat) : far J (i + 1) = (bif m_cmp .le (offP (spl' (tst J i (trip J i)))) (far J i) then far J i else offP (spl' (tst J i (trip J i)))) := by
  unfold far
  rw [itr_0]
  rfl
theorem go143 {s : SG} {t : Nat} (ht : t < 24) (hn : (s 123 2).toNatClampNeg ≤ 8) (j : Nat) (hj : ¬ (8 * t ≤ j ∧ j < 8 * t + 8)) : F_goes s t 143 j = s 143 j := by
  have key : ∀ i, i ≤ (s 123 2).toNatClampNeg → (itr (B_goes_7 t (s 133 t)) 0 i s) 143 j = s 143 j := by
    refine itr_ind (fun (_ : Nat) (a : SG) => a 143 j = s 143 j) _ rfl ?_
    intro i a hi h
    have h : a 143 j = s 143 j := h
    show B_goes_7 t (s 133 t) i a 143 j = s 143 j
    unfold B_goes_7
    cases m_cmp .le (s 133 t) 0
    · cases m_cmp .ne (F_isIn a (a 123 25) (a 135 i)) 0
      · show uset a 143 ((8 * Int32.ofNat t) + Int32.ofNat i).toNatClampNeg _ 143 j = s 143 j
        rw [idx8 ht (by omega), uset_nj (by omega)]
        exact h
      · exact h
    · exact h
  exact key _ (Nat.le_refl _)
def vM (a : SG) (t : Nat) : SG := bif m_cmp .ne (goB a t 123 21) (-1) then goB a t else F_goes (goB a t) t
theorem vM_fr {a : SG} {t : Nat} (ht : t < 24) (hn : (a 123 2).toNatClampNeg ≤ 8) : (∀ b j, b = 139 ∨ b = 140 ∨ b = 141 → vM a t b j = a b j) ∧ vM a t 123 24 = a 123 24 ∧ ∀ j, ¬ (8 * t ≤ j ∧ j < 8 * t + 8) → vM a t 143 j = a 143 j := by
  obtain ⟨g0, g1, g2, g3, g4, g5, g6, g7⟩ := goB_sp a t
  have fb := fr_befalls a t
  have q : ∀ b j, b = 139 ∨ b = 140 ∨ b = 141 → goB a t b j = a b j := fun b j h => by
    rcases h with rfl | rfl | rfl
    · exact (g7 139 j (by decide)).trans (fb 139 j rfl)
    · exact (g7 140 j (by decide)).trans (fb 140 j rfl)
    · exact (g7 141 j (by decide)).trans (fb 141 j rfl)
  have q24 : goB a t 123 24 = a 123 24 := (g7 123 24 (by decide)).trans (fb 123 24 rfl)
  have n2 : goB a t 123 2 = a 123 2 := g0 123 2 rfl
  have fg := fr_goes (goB a t) t
  unfold vM
  cases m_cmp .ne (goB a t 123 21) (-1)
  · refine ⟨fun b j h => ?_, (fg 123 24 rfl).trans q24, fun j hj => (go143 ht (by rw [n2]; exact hn) j hj).trans (g6 j hj)⟩
    rcases h with rfl | rfl | rfl
    · exact (fg 139 j rfl).trans (q 139 j (by decide))
    · exact (fg 140 j rfl).trans (q 140 j (by decide))
    · exact (fg 141 j rfl).trans (q 141 j (by decide))
  · exact ⟨q, q24, g6⟩
theorem ruM_s {s a : SG} {t : Nat} (ht : t < 24) (hn : (s 123 2).toNatClampNeg ≤ 8) (hse : ∀ k, k < 8 → ∃ j, j < 8 ∧ s 135 k = Int32.ofNat j) (hov : ovJ (inM s)) (h : RuM s t a) : RuM s (t + 1) (F_goesBy a t) := by
  have M : MiM a (inM s) t (trip (inM s) t) (vM a t) := miM ht hn hse hov h
  obtain ⟨f, r1, r2, r3, r4, r5, r6, r7, r8⟩ := h
  have na : a 123 2 = s 123 2 := f 123 2 rfl
  obtain ⟨w1, w2, w3⟩ := vM_fr (a := a) ht (by rw [na]; exact hn)
  have hfr := fr_goesBy a t
  have e : F_goesBy a t = uset (uset (uset (uset (uset (vM a t) 139 t (vM a t 123 19)) 140 t (vM a t 123 20)) 141 (2 * t) (vM a t 136 0)) 141 (2 * t + 1) (vM a t 136 1)) 123 24 (bif m_cmp .le (offP (vM a t 123 20)) (vM a t 123 24) then vM a t 123 24 else offP (vM a t 123 20)) := rfl
  rw [e] at hfr ⊢
  generalize vM a t = v at *
  obtain ⟨m1, m2, m3, m4, m5, m6, m7, m8, m9⟩ := M
  have hn8 : jn (inM s) ≤ 8 := hn
  refine ⟨f.tr (Fr.wk hfr (by rfl)), m1, m2, m3, ?_, ?_, ?_, fun k hk => ⟨(m9 k hk).1, (m9 k hk).2.1⟩, fun t2 ht2 => ?_⟩
  · show v 123 22 = gma (inM s) (t + 1)
    rw [m5, r4, gma_s]
  · show v 123 23 = gfi (inM s) (t + 1)
    rw [m6, r5, gfi_s]
  · show (bif m_cmp .le (offP (v 123 20)) (v 123 24) then v 123 24 else offP (v 123 20)) = far (inM s) (t + 1)
    rw [w2, r6, m2, far_s]
  · by_cases q : t2 = t
    · subst q
      refine ⟨?_, ?_, ?_, ?_, ?_, fun k hk => (m9 k hk).2.2⟩
      · show uset v 139 t2 (v 123 19) 139 t2 = _
        rw [uset_eq, m1]
        rfl
      · show uset (uset v 139 t2 (v 123 19)) 140 t2 (v 123 20) 140 t2 = _
        rw [uset_eq, m2]
        rfl
      · show uset (uset _ 141 (2 * t2) (v 136 0)) 141 (2 * t2 + 1) (v 136 1) 141 (2 * t2) = _
        rw [uset_nj (by omega), uset_eq, m7]
      · show uset _ 141 (2 * t2 + 1) (v 136 1) 141 (2 * t2 + 1) = _
        rw [uset_eq, m8]
      · show v 142 t2 = _
        rw [m4 t2, if_pos rfl]
    · obtain ⟨o1, o2, o3, o4, o5, o6⟩ := r8 t2 (by omega)
      refine ⟨?_, ?_, ?_, ?_, ?_, fun k hk => ?_⟩
      · show uset v 139 t (v 123 19) 139 t2 = _
        rw [uset_nj q, w1 139 t2 (by decide)]
        exact o1
      · show uset (uset v 139 t (v 123 19)) 140 t (v 123 20) 140 t2 = _
        rw [uset_nj q]
        show v 140 t2 = _
        rw [w1 140 t2 (by decide)]
        exact o2
      · show uset (uset (uset (uset v 139 t (v 123 19)) 140 t (v 123 20)) 141 (2 * t) (v 136 0)) 141 (2 * t + 1) (v 136 1) 141 (2 * t2) = _
        rw [uset_nj (by omega), uset_nj (by omega)]
        show v 141 (2 * t2) = _
        rw [w1 141 _ (by decide)]
        exact o3
      · show uset (uset (uset (uset v 139 t (v 123 19)) 140 t (v 123 20)) 141 (2 * t) (v 136 0)) 141 (2 * t + 1) (v 136 1) 141 (2 * t2 + 1) = _
        rw [uset_nj (by omega), uset_nj (by omega)]
        show v 141 (2 * t2 + 1) = _
        rw [w1 141 _ (by decide)]
        exact o4
      · show v 142 t2 = _
        rw [m4 t2, if_neg q]
        exact o5
      · show v 143 (8 * t2 + k) = _
        rw [w3 _ (by omega)]
        exact o6 k hk
def ruB (s : SG) : SG := uset (uset (uset (uset (uset (uset s 123 19 0) 123 20 10) 123 21 (-1)) 123 22 0) 123 23 (-1)) 123 24 0
theorem ru0 (s : SG) : ∀ i, i ≤ 8 → (∀ k, k < i → itr B_runs_20 0 i (ruB s) 137 k = 0 ∧ itr B_runs_20 0 i (ruB s) 138 k = 0) ∧ ∀ b j, b ≠ 137 → b ≠ 138 → itr B_runs_20 0 i (ruB s) b j = ruB s b j := by
  intro i
  induction i with
  | zero => exact fun _ => ⟨fun k hk => absurd hk (by omega), fun b j _ _ => rfl⟩
  | succ i ih =>
    intro hi
    obtain ⟨h1, h2⟩ := ih (by omega)
    rw [itr_0]
    generalize itr B_runs_20 0 i (ruB s) = a at *
    have e : B_runs_20 i a = uset (uset a 137 i 0) 138 i 0 := rfl
    rw [e]
    refine ⟨fun k hk => ?_, fun b j hb hc => ?_⟩
    · by_cases q : k = i
      · subst q
        exact ⟨(uset_na (by decide)).trans (uset_eq _ _ _ _), uset_eq _ _ _ _⟩
      · refine ⟨?_, ?_⟩
        · rw [uset_na (by decide), uset_nj q]
          exact (h1 k (by omega)).1
        · rw [uset_nj q, uset_na (by decide)]
          exact (h1 k (by omega)).2
    · rw [uset_na hc, uset_na hb]
      exact h2 b j hb hc
theorem runM {s : SG} (hn : (s 123 2).toNatClampNeg ≤ 8) (hse : ∀ k, k < 8 → ∃ j, j < 8 ∧ s 135 k = Int32.ofNat j) (hov : ovJ (inM s)) : RuM s 24 (F_runs s) := by
  obtain ⟨h1, h2⟩ := ru0 s 8 (Nat.le_refl _)
  have f0 : Fr W_runs s (itr B_runs_20 0 8 (ruB s)) := frItrB (W := W_runs) (m := fun x : SG => x) (f := B_runs_20) 8 (fun i a h => fr_B_runs_20 i a h) 8 0 _ (by omega) (Fr.uset (by rfl) (Fr.uset (by rfl) (Fr.uset (by rfl) (Fr.uset (by rfl) (Fr.uset (by rfl) (Fr.uset (by rfl) (Fr.rf _ _)))))))
  have k0 : RuM s 0 (itr B_runs_20 0 8 (ruB s)) := by
    have hn8 : jn (inM s) ≤ 8 := hn
    refine ⟨f0, h2 123 19 (by decide) (by decide), h2 123 20 (by decide) (by decide), h2 123 21 (by decide) (by decide), h2 123 22 (by decide) (by decide), h2 123 23 (by decide) (by decide), h2 123 24 (by decide) (by decide), fun k hk => ⟨(h1 k (by omega)).1, (h1 k (by omega)).2⟩, fun t ht => absurd ht (by omega)⟩
  have key := itr_ind (f := B_runs_37) (a := itr B_runs_20 0 8 (ruB s)) (RuM s) 24 k0 (fun i a hi h => ruM_s hi hn hse hov h) 24 (Nat.le_refl _)
  exact key
