/-! nothing runs over: pulls are 0 to 11 -/
theorem pby_b {so po mn : Int32} (h1 : 1 ≤ po.toInt) (h2 : po.toInt ≤ 9) : 0 ≤ (pby so po mn).toInt ∧ (pby so po mn).toInt ≤ 11 := by
  have e1 : (1 : Int32).toInt = 1 := by decide
  have e2 : (2 : Int32).toInt = 2 := by decide
  have a2 : (po + 2).toInt = po.toInt + 2 := (i32_add (by omega) (by omega)).trans (by omega)
  have a1 : (po + 1).toInt = po.toInt + 1 := (i32_add (by omega) (by omega)).trans (by omega)
  have s1 : (po - 1).toInt = po.toInt - 1 := (i32_sub (by omega) (by omega)).trans (by omega)
  unfold pby frs ltr
  cases m_cmp .ge mn 6
  · cases m_cmp .ne so 1
    · exact ⟨by show 0 ≤ (po + 2).toInt; omega, by show (po + 2).toInt ≤ 11; omega⟩
    · cases m_cmp .ne so 2
      · exact ⟨by show 0 ≤ (po - 1).toInt; omega, by show (po - 1).toInt ≤ 11; omega⟩
      · exact ⟨by show 0 ≤ po.toInt; omega, by show po.toInt ≤ 11; omega⟩
  · cases m_cmp .ne so 1
    · exact ⟨by show 0 ≤ (po - 1).toInt; omega, by show (po - 1).toInt ≤ 11; omega⟩
    · cases m_cmp .ne so 2
      · exact ⟨by show 0 ≤ (po + 1).toInt; omega, by show (po + 1).toInt ≤ 11; omega⟩
      · exact ⟨by show 0 ≤ po.toInt; omega, by show po.toInt ≤ 11; omega⟩
theorem lrs_b {J : TI} {t : Nat} {x : TS} (hp : ∀ k, k < jn J → 1 ≤ (jpo J k).toInt ∧ (jpo J k).toInt ≤ 9) (hn : jn J ≤ 8) : ∀ i, i ≤ jn J → 0 ≤ (lrs J t x i).1.toInt ∧ (lrs J t x i).1.toInt ≤ 11 * i ∧ 0 ≤ (lrs J t x i).2.toInt ∧ (lrs J t x i).2.toInt ≤ 11 * i := by
  intro i
  induction i with
  | zero => exact fun _ => (show 0 ≤ (0 : Int32).toInt ∧ (0 : Int32).toInt ≤ 11 * ((0 : Nat) : Int) ∧ 0 ≤ (0 : Int32).toInt ∧ (0 : Int32).toInt ≤ 11 * ((0 : Nat) : Int) from by decide)
  | succ i ih =>
    intro hi
    obtain ⟨a1, a2, a3, a4⟩ := ih (by omega)
    have e : lrs J t x (i + 1) = lstep J t x i (lrs J t x i) := itr_0 _ _ _
    have hb : 0 ≤ (pul J t x i).toInt ∧ (pul J t x i).toInt ≤ 11 := by
      unfold pul
      cases pon J t x i
      · exact (show 0 ≤ (0 : Int32).toInt ∧ (0 : Int32).toInt ≤ 11 from by decide)
      · exact pby_b (hp i (by omega)).1 (hp i (by omega)).2
    obtain ⟨b1, b2⟩ := hb
    have c1 : ((lrs J t x i).1 + pul J t x i).toInt = (lrs J t x i).1.toInt + (pul J t x i).toInt := i32_add (by omega) (by omega)
    have c2 : ((lrs J t x i).2 + pul J t x i).toInt = (lrs J t x i).2.toInt + (pul J t x i).toInt := i32_add (by omega) (by omega)
    rw [e]
    unfold lstep
    cases m_cmp .ne (jse J i - jse J i / 2 * 2) 0
    · show 0 ≤ ((lrs J t x i).1 + pul J t x i).toInt ∧ ((lrs J t x i).1 + pul J t x i).toInt ≤ 11 * ((i + 1 : Nat) : Int) ∧ 0 ≤ (lrs J t x i).2.toInt ∧ (lrs J t x i).2.toInt ≤ 11 * ((i + 1 : Nat) : Int)
      omega
    · show 0 ≤ (lrs J t x i).1.toInt ∧ (lrs J t x i).1.toInt ≤ 11 * ((i + 1 : Nat) : Int) ∧ 0 ≤ ((lrs J t x i).2 + pul J t x i).toInt ∧ ((lrs J t x i).2 + pul J t x i).toInt ≤ 11 * ((i + 1 : Nat) : Int)
      omega
theorem ovJ_of {J : TI} (hn : jn J ≤ 8) (hp : ∀ k, k < jn J → 1 ≤ (jpo J k).toInt ∧ (jpo J k).toInt ≤ 9) (hr : ∀ t, t < 24 → 0 ≤ (jra J t).toInt ∧ (jra J t).toInt ≤ 3) : ovJ J := by
  intro t ht
  obtain ⟨a1, a2, a3, a4⟩ := lrs_b (t := t) (x := trip J t) hp hn (jn J) (Nat.le_refl _)
  obtain ⟨r1, r2⟩ := hr t ht
  have d : ((lrs J t (trip J t) (jn J)).1 - (lrs J t (trip J t) (jn J)).2).toInt = (lrs J t (trip J t) (jn J)).1.toInt - (lrs J t (trip J t) (jn J)).2.toInt := i32_sub (by omega) (by omega)
  generalize (lrs J t (trip J t) (jn J)).1 - (lrs J t (trip J t) (jn J)).2 = y at *
  have hc : (jra J t).toInt = 0 ∨ (jra J t).toInt = 1 ∨ (jra J t).toInt = 2 ∨ (jra J t).toInt = 3 := by omega
  have m : (jra J t * y).toInt = (jra J t).toInt * y.toInt := by
    rcases hc with e | e | e | e
    · exact i32_mul (by rw [e]; omega) (by rw [e]; omega)
    · exact i32_mul (by rw [e]; omega) (by rw [e]; omega)
    · exact i32_mul (by rw [e]; omega) (by rw [e]; omega)
    · exact i32_mul (by rw [e]; omega) (by rw [e]; omega)
  rw [m]
  rcases hc with e | e | e | e
  · rw [e]; omega
  · rw [e]; omega
  · rw [e]; omega
  · rw [e]; omega
