/-! the model's whole trip -/
theorem befM_fr {s a : SG} (f : Fr W_runs s a) : befM a = befM s := by
  funext t
  have h11 : a 123 11 = s 123 11 := f 123 11 rfl
  have h30 : a 130 = s 130 := funext (fun j => f 130 j rfl)
  have h31 : a 131 = s 131 := funext (fun j => f 131 j rfl)
  have h32 : a 132 = s 132 := funext (fun j => f 132 j rfl)
  have hof : offM a = offM s := by
    funext e
    unfold offM
    rw [f 123 17 rfl]
    rfl
  unfold befM
  rw [h11, h30, h31, h32, hof]
theorem inM_fr {s a : SG} (f : Fr W_runs s a) : inM a = inM s := by
  have h26 : a 126 = s 126 := funext (fun j => f 126 j rfl)
  have h27 : a 127 = s 127 := funext (fun j => f 127 j rfl)
  have h35 : a 135 = s 135 := funext (fun j => f 135 j rfl)
  have h33 : a 133 = s 133 := funext (fun j => f 133 j rfl)
  have h34 : a 134 = s 134 := funext (fun j => f 134 j rfl)
  unfold inM
  rw [f 123 2 rfl, h26, h27, h35, h33, h34, f 123 9 rfl, f 123 10 rfl, befM_fr f]
theorem lrs_off {J : TI} {t : Nat} {x : TS} (h : ∀ k, pon J t x k = false) : ∀ i, lrs J t x i = (0, 0) := by
  intro i
  induction i with
  | zero => rfl
  | succ i ih =>
    have e : lrs J t x (i + 1) = lstep J t x i (lrs J t x i) := itr_0 _ _ _
    have hp : pul J t x i = 0 := by unfold pul; rw [h i]; rfl
    rw [e, ih]
    unfold lstep
    rw [hp]
    cases m_cmp .ne (jse J i - jse J i / 2 * 2) 0 <;> rfl
/-- one minute more -/
def OuM (J : TI) (i : Nat) (a : SG) : Prop := ∀ t, t < i → a 139 t = sme (trip J (t + 1)) ∧ a 140 t = spl' (trip J (t + 1)) ∧ a 141 (2 * t) = (lrs J t (trip J t) (jn J)).1 ∧ a 141 (2 * t + 1) = (lrs J t (trip J t) (jn J)).2 ∧ a 142 t = gr' J t (trip J t) ∧ ∀ k, k < jn J → a 143 (8 * t + k) = pul J t (trip J t) k
def RuM (s : SG) (i : Nat) (a : SG) : Prop := Fr W_runs s a ∧ a 123 19 = sme (trip (inM s) i) ∧ a 123 20 = spl' (trip (inM s) i) ∧ a 123 21 = sth (trip (inM s) i) ∧ a 123 22 = gma (inM s) i ∧ a 123 23 = gfi (inM s) i ∧ a 123 24 = far (inM s) i ∧ (∀ k, k < jn (inM s) → a 137 k = smn (trip (inM s) i) k ∧ a 138 k = ssm (trip (inM s) i) k) ∧ OuM (inM s) i a
def ovJ (J : TI) : Prop := ∀ t, t < 24 → -2147483648 < (jra J t * ((lrs J t (trip J t) (jn J)).1 - (lrs J t (trip J t) (jn J)).2)).toInt
/-- what a minute changes, whether the boat is there or not -/
def MiM (b : SG) (J : TI) (t : Nat) (x : TS) (g : SG) : Prop := g 123 19 = sme (tst J t x) ∧ g 123 20 = spl' (tst J t x) ∧ g 123 21 = sth (tst J t x) ∧ (∀ k, g 142 k = if k = t then gr' J t x else b 142 k) ∧ g 123 22 = b 123 22 + gr' J t x ∧ g 123 23 = (bif m_cmp .eq (gr' J t x) 0 then b 123 23 else (bif m_cmp .ne (b 123 23) (-1) then b 123 23 else Int32.ofNat t)) ∧ g 136 0 = (lrs J t x (jn J)).1 ∧ g 136 1 = (lrs J t x (jn J)).2 ∧ ∀ k, k < jn J → g 137 k = smn (tst J t x) k ∧ g 138 k = ssm (tst J t x) k ∧ g 143 (8 * t + k) = pul J t x k
theorem miM {s a : SG} {t : Nat} (ht : t < 24) (hn : (s 123 2).toNatClampNeg ≤ 8) (hse : ∀ k, k < 8 → ∃ j, j < 8 ∧ s 135 k = Int32.ofNat j) (hov : ovJ (inM s)) (h : RuM s t a) : MiM a (inM s) t (trip (inM s) t) (bif m_cmp .ne (goB a t 123 21) (-1) then goB a t else F_goes (goB a t) t) := by
  obtain ⟨f, r1, r2, r3, r4, r5, r6, r7, -⟩ := h
  obtain ⟨g0, g1, g2, g3, g4, g5, g6, g7⟩ := goB_sp a t
  have fb := fr_befalls a t
  have fg : Fr W_runs s (goB a t) := f.tr (Fr.wk g0 (by rfl))
  have hJ : inM (goB a t) = inM s := inM_fr fg
  have hbe : befM (goB a t) = befM s := befM_fr fg
  have hba : befM a = befM s := befM_fr f
  have q : ∀ k, k ≠ 25 → k ≠ 26 → k ≠ 27 → goB a t 123 k = a 123 k := fun k h1 h2 h3 => by
    rw [g7 123 k (by decide)]
    show F_befalls a t 123 k = a 123 k
    refine fb 123 k ?_
    unfold inW W_befalls
    simp only [List.any_cons, List.any_nil]
    have e1 : (25 == k) = false := by simpa using fun e => h1 e.symm
    have e2 : (26 == k) = false := by simpa using fun e => h2 e.symm
    have e3 : (27 == k) = false := by simpa using fun e => h3 e.symm
    rw [e1, e2, e3]
    rfl
  have q137 : ∀ k, goB a t 137 k = a 137 k := fun k => (g7 137 k (by decide)).trans (fb 137 k rfl)
  have q138 : ∀ k, goB a t 138 k = a 138 k := fun k => (g7 138 k (by decide)).trans (fb 138 k rfl)
  have q21 : goB a t 123 21 = sth (trip (inM s) t) := (q 21 (by decide) (by decide) (by decide)).trans r3
  rw [q21]
  cases c : m_cmp .ne (sth (trip (inM s) t)) (-1) with
  | true =>
    have hoff : ∀ k, pon (inM s) t (trip (inM s) t) k = false := fun k => by unfold pon; rw [c]; rfl
    have hl := lrs_off hoff (jn (inM s))
    have hgr : gr' (inM s) t (trip (inM s) t) = 0 := by unfold gr'; rw [c]; rfl
    have hpu : ∀ k, pul (inM s) t (trip (inM s) t) k = 0 := fun k => by unfold pul; rw [hoff k]; rfl
    show MiM a (inM s) t (trip (inM s) t) (goB a t)
    refine ⟨?_, ?_, ?_, fun k => ?_, ?_, ?_, by rw [hl]; exact g1, by rw [hl]; exact g2, fun k hk => ⟨?_, ?_, ?_⟩⟩
    · rw [q 19 (by decide) (by decide) (by decide), r1]
      show _ = (bif m_cmp .ne (sth (trip (inM s) t)) (-1) then _ else _)
      rw [c]
      rfl
    · rw [q 20 (by decide) (by decide) (by decide), r2]
      show _ = (bif m_cmp .ne (sth (trip (inM s) t)) (-1) then _ else _)
      rw [c]
      rfl
    · rw [q21]
      show _ = (bif m_cmp .ne (sth (trip (inM s) t)) (-1) then _ else _)
      rw [c]
      rfl
    · rw [hgr]
      by_cases e : k = t
      · rw [if_pos e, e]
        exact g3
      · rw [if_neg e]
        exact g4 k e
    · rw [hgr, q 22 (by decide) (by decide) (by decide), Int32.add_zero]
    · rw [hgr, q 23 (by decide) (by decide) (by decide)]
      rfl
    · rw [q137, (r7 k hk).1]
      show _ = mn' (inM s) t (trip (inM s) t) k
      unfold mn'
      rw [hoff k]
      rfl
    · rw [q138, (r7 k hk).2]
      show _ = sm' (inM s) t (trip (inM s) t) k
      unfold sm'
      rw [hoff k]
      rfl
    · rw [hpu]
      exact g5 k (by have hk : k < (s 123 2).toNatClampNeg := hk; omega)
  | false =>
    have h1 : sth (trip (inM s) t) = -1 := by
      have := m_ff m_ne_iff c
      exact Decidable.of_not_not this
    have n2 : goB a t 123 2 = s 123 2 := fg 123 2 rfl
    have hb : ((goB a t 123 25, goB a t 123 26, goB a t 123 27) : Int32 × Int32 × Int32) = befM (goB a t) t := by
      rw [hbe, ← hba, ← m_bef]
      rw [g7 123 25 (by decide), g7 123 26 (by decide), g7 123 27 (by decide)]
      rfl
    have G := goM (s := goB a t) (x := trip (inM s) t) ht (by rw [n2]; exact hn) hb q21 h1 g1 g2 (fun k hk => by rw [fg 135 k rfl]; exact hse k hk) (fun k hk => by rw [n2] at hk; rw [q137]; exact (r7 k hk).1) (fun k hk => by rw [n2] at hk; rw [q138]; exact (r7 k hk).2) g5 ((q 19 (by decide) (by decide) (by decide)).trans r1) ((q 20 (by decide) (by decide) (by decide)).trans r2) (by rw [hJ, fg 133 t rfl]; exact hov t ht)
    obtain ⟨-, k1, k2, k3, k4, k5, k6, k7, k8, k9⟩ := G
    rw [hJ] at k1 k2 k3 k4 k5 k6 k7 k8 k9
    rw [n2] at k9
    show MiM a (inM s) t (trip (inM s) t) (F_goes (goB a t) t)
    refine ⟨?_, ?_, ?_, fun k => ?_, ?_, ?_, k7, k8, fun k hk => ?_⟩
    · rw [k1]
      show _ = (bif m_cmp .ne (sth (trip (inM s) t)) (-1) then _ else _)
      rw [c]
      rfl
    · rw [k2]
      show _ = (bif m_cmp .ne (sth (trip (inM s) t)) (-1) then _ else _)
      rw [c]
      rfl
    · rw [k3, fg 123 10 rfl]
      show _ = (bif m_cmp .ne (sth (trip (inM s) t)) (-1) then _ else _)
      rw [c]
      rfl
    · rw [k4 k]
      by_cases e : k = t
      · rw [if_pos e, if_pos e]
      · rw [if_neg e, if_neg e]
        exact g4 k e
    · rw [k5, q 22 (by decide) (by decide) (by decide)]
    · rw [k6, q 23 (by decide) (by decide) (by decide)]
    · exact k9 k hk
