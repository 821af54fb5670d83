/-! ask -/
def b9 (b1 b2 b3 b4 b5 b6 b7 b8 b9_ : Bool) : Int32 := bF (fun _ => b9_) 9 (bF (fun _ => b8) 8 (bF (fun _ => b7) 7 (bF (fun _ => b6) 6 (bF (fun _ => b5) 5 (bF (fun _ => b4) 4 (bF (fun _ => b3) 3 (bF (fun _ => b2) 2 (bF (fun _ => b1) 1 (0 : Int32)))))))))
theorem b9_1 : ∀ b1 b2 b3 b4 b5 b6 b7 b8 b9_ : Bool, m_cmp .ne ((b9 b1 b2 b3 b4 b5 b6 b7 b8 b9_ >>> ((Int32.ofNat 1) &&& 31)) &&& 1) 0 = b1 := by decide +kernel
theorem b9_2 : ∀ b1 b2 b3 b4 b5 b6 b7 b8 b9_ : Bool, m_cmp .ne ((b9 b1 b2 b3 b4 b5 b6 b7 b8 b9_ >>> ((Int32.ofNat 2) &&& 31)) &&& 1) 0 = b2 := by decide +kernel
theorem b9_3 : ∀ b1 b2 b3 b4 b5 b6 b7 b8 b9_ : Bool, m_cmp .ne ((b9 b1 b2 b3 b4 b5 b6 b7 b8 b9_ >>> ((Int32.ofNat 3) &&& 31)) &&& 1) 0 = b3 := by decide +kernel
theorem b9_4 : ∀ b1 b2 b3 b4 b5 b6 b7 b8 b9_ : Bool, m_cmp .ne ((b9 b1 b2 b3 b4 b5 b6 b7 b8 b9_ >>> ((Int32.ofNat 4) &&& 31)) &&& 1) 0 = b4 := by decide +kernel
theorem b9_5 : ∀ b1 b2 b3 b4 b5 b6 b7 b8 b9_ : Bool, m_cmp .ne ((b9 b1 b2 b3 b4 b5 b6 b7 b8 b9_ >>> ((Int32.ofNat 5) &&& 31)) &&& 1) 0 = b5 := by decide +kernel
theorem b9_6 : ∀ b1 b2 b3 b4 b5 b6 b7 b8 b9_ : Bool, m_cmp .ne ((b9 b1 b2 b3 b4 b5 b6 b7 b8 b9_ >>> ((Int32.ofNat 6) &&& 31)) &&& 1) 0 = b6 := by decide +kernel
theorem b9_7 : ∀ b1 b2 b3 b4 b5 b6 b7 b8 b9_ : Bool, m_cmp .ne ((b9 b1 b2 b3 b4 b5 b6 b7 b8 b9_ >>> ((Int32.ofNat 7) &&& 31)) &&& 1) 0 = b7 := by decide +kernel
theorem b9_8 : ∀ b1 b2 b3 b4 b5 b6 b7 b8 b9_ : Bool, m_cmp .ne ((b9 b1 b2 b3 b4 b5 b6 b7 b8 b9_ >>> ((Int32.ofNat 8) &&& 31)) &&& 1) 0 = b8 := by decide +kernel
theorem b9_9 : ∀ b1 b2 b3 b4 b5 b6 b7 b8 b9_ : Bool, m_cmp .ne ((b9 b1 b2 b3 b4 b5 b6 b7 b8 b9_ >>> ((Int32.ofNat 9) &&& 31)) &&& 1) 0 = b9_ := by decide +kernel
theorem b9_e (p : Nat → Bool) : itr (bF p) 1 9 0 = b9 (p 1) (p 2) (p 3) (p 4) (p 5) (p 6) (p 7) (p 8) (p 9) := by
  rw [show (9 : Nat) = 8 + 1 from rfl, itr_succ, show (8 : Nat) = 7 + 1 from rfl, itr_succ, show (7 : Nat) = 6 + 1 from rfl, itr_succ, show (6 : Nat) = 5 + 1 from rfl, itr_succ, show (5 : Nat) = 4 + 1 from rfl, itr_succ, show (4 : Nat) = 3 + 1 from rfl, itr_succ, show (3 : Nat) = 2 + 1 from rfl, itr_succ, show (2 : Nat) = 1 + 1 from rfl, itr_succ, show (1 : Nat) = 0 + 1 from rfl, itr_succ, itr_z]
  rfl
theorem b9_t (p : Nat → Bool) : ∀ v, 1 ≤ v → v ≤ 9 → m_cmp .ne ((itr (bF p) 1 9 0 >>> ((Int32.ofNat v) &&& 31)) &&& 1) 0 = p v := by
  intro v h1 h2
  rw [b9_e]
  have hv : v = 1 ∨ v = 2 ∨ v = 3 ∨ v = 4 ∨ v = 5 ∨ v = 6 ∨ v = 7 ∨ v = 8 ∨ v = 9 := by omega
  rcases hv with rfl | rfl | rfl | rfl | rfl | rfl | rfl | rfl | rfl
  · exact b9_1 _ _ _ _ _ _ _ _ _
  · exact b9_2 _ _ _ _ _ _ _ _ _
  · exact b9_3 _ _ _ _ _ _ _ _ _
  · exact b9_4 _ _ _ _ _ _ _ _ _
  · exact b9_5 _ _ _ _ _ _ _ _ _
  · exact b9_6 _ _ _ _ _ _ _ _ _
  · exact b9_7 _ _ _ _ _ _ _ _ _
  · exact b9_8 _ _ _ _ _ _ _ _ _
  · exact b9_9 _ _ _ _ _ _ _ _ _
theorem hb_t (p : Nat → Bool) (a : SG) (v : Nat) (h1 : 1 ≤ v) (h2 : v ≤ 9) : m_cmp .eq (F_hasBit a (itr (bF p) 1 9 0) (Int32.ofNat v)) 0 = !(p v) := by
  have e : F_hasBit a (itr (bF p) 1 9 0) (Int32.ofNat v) = F_isIn a (itr (bF p) 1 9 0) (Int32.ofNat v) := rfl
  rw [e, eq_ne, isIn_bit, b9_t p v h1 h2]
theorem ii_t (p : Nat → Bool) (a : SG) (v : Nat) (h1 : 1 ≤ v) (h2 : v ≤ 9) : m_cmp .eq (F_isIn a (itr (bF p) 1 9 0) (Int32.ofNat v)) 0 = !(p v) := by
  rw [eq_ne, isIn_bit, b9_t p v h1 h2]
/-- how many of them are at a place -/
def cnS (p : Nat → Bool) (X : Nat → Nat) (q : Nat) (b y : Nat) : Nat := bif p b then (if X b = q then y + 1 else y) else y
def cntE (p : Nat → Bool) (X : Nat → Nat) (n q : Nat) : Nat := itr (cnS p X q) 1 n 0
theorem cntE_s (p : Nat → Bool) (X : Nat → Nat) (n q : Nat) : cntE p X (n + 1) q = cnS p X q (1 + n) (cntE p X n q) := itr_succ _ _ _ _
theorem cntE_b (p : Nat → Bool) (X : Nat → Nat) (q : Nat) : ∀ n, cntE p X n q ≤ n
  | 0 => Nat.le_refl 0
  | n + 1 => by
    have := cntE_b p X q n
    rw [cntE_s]
    unfold cnS
    cases p (1 + n) with
    | false => rw [kF]; omega
    | true =>
      rw [kT]
      by_cases w : X (1 + n) = q
      · rw [if_pos w]; omega
      · rw [if_neg w]; omega
def MXn (p : Nat → Bool) (X : Nat → Nat) (n m : Nat) : Prop := m ≤ n ∧ (∀ a, 1 ≤ a → a ≤ n → p a = true → cntE p X n (X a) ≤ m) ∧ (m = 0 ∨ ∃ a, 1 ≤ a ∧ a ≤ n ∧ p a = true ∧ cntE p X n (X a) = m)
theorem MXn.uniq {p : Nat → Bool} {X : Nat → Nat} {n m k : Nat} (h : MXn p X n m) (g : MXn p X n k) : m = k := by
  obtain ⟨-, h1, h2⟩ := h
  obtain ⟨-, g1, g2⟩ := g
  rcases Nat.lt_trichotomy m k with w | w | w
  · rcases g2 with e | ⟨a, a1, a2, a3, a4⟩
    · omega
    · have := h1 a a1 a2 a3
      omega
  · exact w
  · rcases h2 with e | ⟨a, a1, a2, a3, a4⟩
    · omega
    · have := g1 a a1 a2 a3
      omega
/-- the running greatest -/
theorem MXn.step {p : Nat → Bool} {X : Nat → Nat} {n m : Nat} (h : MXn p X n m) : (p (1 + n) = false → MXn p X (n + 1) m) ∧ (p (1 + n) = true → MXn p X (n + 1) (if m < cntE p X (n + 1) (X (1 + n)) then cntE p X (n + 1) (X (1 + n)) else m)) := by
  obtain ⟨h0, h1, h2⟩ := h
  refine ⟨fun q => ?_, fun q => ?_⟩
  · have e : ∀ r, cntE p X (n + 1) r = cntE p X n r := fun r => by
      rw [cntE_s]
      unfold cnS
      rw [q, kF]
    refine ⟨by omega, fun a a1 a2 a3 => ?_, ?_⟩
    · rw [e]
      by_cases w : a = 1 + n
      · rw [w, q] at a3; cases a3
      · exact h1 a a1 (by omega) a3
    · rcases h2 with e0 | ⟨a, a1, a2, a3, a4⟩
      · exact Or.inl e0
      · exact Or.inr ⟨a, a1, by omega, a3, by rw [e]; exact a4⟩
  · have e : ∀ r, cntE p X (n + 1) r = if X (1 + n) = r then cntE p X n r + 1 else cntE p X n r := fun r => by
      rw [cntE_s]
      unfold cnS
      rw [q, kT]
    have b := cntE_b p X (X (1 + n)) (n + 1)
    have up : ∀ a, 1 ≤ a → a ≤ n + 1 → p a = true → cntE p X (n + 1) (X a) ≤ max m (cntE p X (n + 1) (X (1 + n))) := fun a a1 a2 a3 => by
      by_cases w : a = 1 + n
      · rw [w]; omega
      · have k := h1 a a1 (by omega) a3
        by_cases x : X (1 + n) = X a
        · rw [x]; omega
        · rw [e (X a), if_neg x]; omega
    have at1 : cntE p X (n + 1) (X (1 + n)) = cntE p X n (X (1 + n)) + 1 := by rw [e, if_pos rfl]
    by_cases w : m < cntE p X (n + 1) (X (1 + n))
    · rw [if_pos w]
      refine ⟨b, fun a a1 a2 a3 => ?_, Or.inr ⟨1 + n, by omega, by omega, q, rfl⟩⟩
      have := up a a1 a2 a3
      omega
    · rw [if_neg w]
      refine ⟨by omega, fun a a1 a2 a3 => ?_, ?_⟩
      · have := up a a1 a2 a3
        omega
      · rcases h2 with e0 | ⟨a, a1, a2, a3, a4⟩
        · omega
        · refine Or.inr ⟨a, a1, by omega, a3, ?_⟩
          by_cases x : X (1 + n) = X a
          · rw [x] at w at1
            omega
          · rw [e (X a), if_neg x]; exact a4
theorem lt_ofn {a b : Nat} (ha : a < 1000) (hb : b < 1000) : Int32.ofNat a < Int32.ofNat b ↔ a < b := by
  rw [Int32.lt_iff_toInt_lt, ofn_int (by omega), ofn_int (by omega)]
  omega
/-- the class: a tally -/
theorem moC {z : SG} {p : Nat → Bool} {x : NI} {t : Nat} (ht : t < 24) (hx : ∀ v, 1 ≤ v → v ≤ 9 → p v = true → z (98 + v) t = x v) (x20 : ∀ v, 0 ≤ (x v).toInt ∧ (x v).toInt ≤ 20) : ∃ m, (F_mostAtOnePlace z (itr (bF p) 1 9 0) (Int32.ofNat t)).1 = Int32.ofNat m ∧ MXn p (fun v => (x v).toNatClampNeg) 9 m ∧ ∀ b j, b ≠ 108 → (F_mostAtOnePlace z (itr (bF p) 1 9 0) (Int32.ofNat t)).2 b j = z b j := by
  have ct : (Int32.ofNat t).toNatClampNeg = t := ofn_c (by omega)
  have hX : ∀ v, (x v).toNatClampNeg < 21 := fun v => by
    have := x20 v
    show (x v).toInt.toNat < 21
    omega
  have key : ∀ n, n ≤ 9 → (∀ b j, b ≠ 108 → (itr (B_mostAtOnePlace_8 (itr (bF p) 1 9 0) (Int32.ofNat t)) 1 n (fil z 108 21 0, 0)).1 b j = z b j) ∧ (∀ q, q < 21 → (itr (B_mostAtOnePlace_8 (itr (bF p) 1 9 0) (Int32.ofNat t)) 1 n (fil z 108 21 0, 0)).1 108 q = Int32.ofNat (cntE p (fun v => (x v).toNatClampNeg) n q)) ∧ ∃ m, (itr (B_mostAtOnePlace_8 (itr (bF p) 1 9 0) (Int32.ofNat t)) 1 n (fil z 108 21 0, 0)).2 = Int32.ofNat m ∧ MXn p (fun v => (x v).toNatClampNeg) n m := by
    generalize hbits : itr (bF p) 1 9 0 = bits
    intro n
    induction n with
    | zero => exact fun _ => ⟨fun b j hb => fil_na hb, fun q hq => fil_eq hq, 0, rfl, Nat.le_refl 0, fun a a1 a2 => absurd a1 (by omega), Or.inl rfl⟩
    | succ n ih =>
      intro hn
      obtain ⟨h1, h2, m, h3, h4⟩ := ih (by omega)
      rw [itr_succ]
      generalize itr (B_mostAtOnePlace_8 bits (Int32.ofNat t)) 1 n (fil z 108 21 0, 0) = a at *
      have hb : m_cmp .eq (F_hasBit a.1 bits (Int32.ofNat (1 + n))) 0 = !(p (1 + n)) := by rw [← hbits]; exact hb_t p a.1 (1 + n) (by omega) (by omega)
      obtain ⟨st1, st2⟩ := h4.step
      cases q : p (1 + n) with
      | false =>
        rw [q] at hb
        have eB : B_mostAtOnePlace_8 bits (Int32.ofNat t) (1 + n) a = (a.1, a.2) := by
          unfold B_mostAtOnePlace_8
          dsimp only
          rw [hb, lF, kT]
        rw [eB]
        refine ⟨h1, fun r hr => ?_, m, h3, st1 q⟩
        dsimp only
        rw [h2 r hr, cntE_s]
        unfold cnS
        rw [q, kF]
      | true =>
        rw [q] at hb
        have ep : a.1 (98 + (1 + n)) t = x (1 + n) := (h1 _ _ (by omega)).trans (hx _ (by omega) (by omega) q)
        have eB : B_mostAtOnePlace_8 bits (Int32.ofNat t) (1 + n) a = (uset a.1 108 (x (1 + n)).toNatClampNeg (a.1 108 (x (1 + n)).toNatClampNeg + 1), if a.2 < (uset a.1 108 (x (1 + n)).toNatClampNeg (a.1 108 (x (1 + n)).toNatClampNeg + 1)) 108 (x (1 + n)).toNatClampNeg then (uset a.1 108 (x (1 + n)).toNatClampNeg (a.1 108 (x (1 + n)).toNatClampNeg + 1)) 108 (x (1 + n)).toNatClampNeg else a.2) := by
          unfold B_mostAtOnePlace_8
          dsimp only
          rw [hb, lT, kF, ct, ep]
        rw [eB, uset_eq, h2 _ (hX _), h3, ofn_s]
        have e1 : cntE p (fun v => (x v).toNatClampNeg) (n + 1) (x (1 + n)).toNatClampNeg = cntE p (fun v => (x v).toNatClampNeg) n (x (1 + n)).toNatClampNeg + 1 := by
          rw [cntE_s]
          unfold cnS
          rw [q, kT, if_pos rfl]
        rw [← e1]
        have bd := cntE_b p (fun v => (x v).toNatClampNeg) (x (1 + n)).toNatClampNeg (n + 1)
        have hm := h4.1
        refine ⟨fun b j hb => (uset_na hb).trans (h1 b j hb), fun r hr => ?_, _, ?_, st2 q⟩
        · dsimp only
          by_cases w : r = (x (1 + n)).toNatClampNeg
          · rw [w]; exact uset_eq _ _ _ _
          · rw [uset_nj w, h2 r hr, cntE_s]
            unfold cnS
            rw [q, kT, if_neg (fun y => w y.symm)]
        · dsimp only
          by_cases w : m < cntE p (fun v => (x v).toNatClampNeg) (n + 1) (x (1 + n)).toNatClampNeg
          · rw [if_pos w, if_pos ((lt_ofn (by omega) (by omega)).mpr w)]
          · rw [if_neg w, if_neg (fun y => w ((lt_ofn (by omega) (by omega)).mp y))]
  obtain ⟨h1, -, m, h3, h4⟩ := key 9 (Nat.le_refl _)
  have eF : F_mostAtOnePlace z (itr (bF p) 1 9 0) (Int32.ofNat t) = ((itr (B_mostAtOnePlace_8 (itr (bF p) 1 9 0) (Int32.ofNat t)) 1 9 (fil z 108 21 0, 0)).2, (itr (B_mostAtOnePlace_8 (itr (bF p) 1 9 0) (Int32.ofNat t)) 1 9 (fil z 108 21 0, 0)).1) := by
    have e : F_mostAtOnePlace z (itr (bF p) 1 9 0) (Int32.ofNat t) = ((itr (B_mostAtOnePlace_8 (itr (bF p) 1 9 0) (Int32.ofNat t)) 1 (10 - 1) (fil z 108 21 0, 0)).2, (itr (B_mostAtOnePlace_8 (itr (bF p) 1 9 0) (Int32.ofNat t)) 1 (10 - 1) (fil z 108 21 0, 0)).1) := rfl
    rw [e, itr9]
  rw [eF]
  exact ⟨m, h3, h4, h1⟩
theorem x_eq {a b : Int32} (ha : 0 ≤ a.toInt ∧ a.toInt ≤ 20) (hb : 0 ≤ b.toInt ∧ b.toInt ≤ 20) : m_cmp .ne a b = !(decide (b.toNatClampNeg = a.toNatClampNeg)) := by
  by_cases w : a = b
  · rw [w]
    rw [decide_eq_true rfl, lT]
    cases q : m_cmp .ne b b with
    | false => rfl
    | true => exact absurd rfl (m_ne_iff.mp q)
  · rw [m_ne_iff.mpr w]
    have e : ¬ b.toNatClampNeg = a.toNatClampNeg := fun e => w (by
      apply Int32.toInt_inj.mp
      have e : b.toInt.toNat = a.toInt.toNat := e
      omega)
    rw [decide_eq_false e, lF]
/-- the model: pairs -/
theorem moM {z : SG} {p : Nat → Bool} {x : NI} {t : Nat} (hx : ∀ v, 1 ≤ v → v ≤ 9 → z 147 (24 * v + t) = x v) (x20 : ∀ v, 0 ≤ (x v).toInt ∧ (x v).toInt ≤ 20) : ∃ m, itr (B_askOf_17 (itr (bF p) 1 9 0, z) t) 1 9 (0 : Int32) = Int32.ofNat m ∧ MXn p (fun v => (x v).toNatClampNeg) 9 m := by
  have inner : ∀ a, 1 ≤ a → a ≤ 9 → ∀ n, n ≤ 9 → itr (B_askOf_24 (itr (bF p) 1 9 0, z) t a) 1 n (0 : Int32) = Int32.ofNat (bif p a then cntE p (fun v => (x v).toNatClampNeg) n (x a).toNatClampNeg else 0) := by
    intro a a1 a2 n
    induction n with
    | zero =>
      intro _
      rw [itr_z]
      cases p a <;> rfl
    | succ n ih =>
      intro hn
      rw [itr_succ, ih (by omega)]
      have i1 := ii_t p z a a1 a2
      have i2 := ii_t p z (1 + n) (by omega) (by omega)
      unfold B_askOf_24
      dsimp only
      rw [i1, i2, hx a a1 a2, hx (1 + n) (by omega) (by omega), x_eq (x20 a) (x20 (1 + n)), cntE_s]
      unfold cnS
      cases p a with
      | false => rw [lF, kT, kF, kF]; rfl
      | true =>
        rw [lT, kF, kT, kT]
        cases p (1 + n) with
        | false => rw [lF, kT, kF]; exact Int32.add_zero _
        | true =>
          rw [lT, kF, kT]
          by_cases w : (x (1 + n)).toNatClampNeg = (x a).toNatClampNeg
          · rw [decide_eq_true w, lT, kF, if_pos w]; exact ofn_s _
          · rw [decide_eq_false w, lF, kT, if_neg w]; exact Int32.add_zero _
  have outer : ∀ n, n ≤ 9 → ∃ m, itr (B_askOf_17 (itr (bF p) 1 9 0, z) t) 1 n (0 : Int32) = Int32.ofNat m ∧ m ≤ 9 ∧ (∀ a, 1 ≤ a → a ≤ n → p a = true → cntE p (fun v => (x v).toNatClampNeg) 9 (x a).toNatClampNeg ≤ m) ∧ (m = 0 ∨ ∃ a, 1 ≤ a ∧ a ≤ n ∧ p a = true ∧ cntE p (fun v => (x v).toNatClampNeg) 9 (x a).toNatClampNeg = m) := by
    intro n
    induction n with
    | zero => exact fun _ => ⟨0, rfl, by omega, fun a a1 a2 => absurd a1 (by omega), Or.inl rfl⟩
    | succ n ih =>
      intro hn
      obtain ⟨m, e, m9, u, w⟩ := ih (by omega)
      rw [itr_succ, e]
      have bd := cntE_b p (fun v => (x v).toNatClampNeg) (x (1 + n)).toNatClampNeg 9
      have eB : B_askOf_17 (itr (bF p) 1 9 0, z) t (1 + n) (Int32.ofNat m) = bif m_cmp .le (itr (B_askOf_24 (itr (bF p) 1 9 0, z) t (1 + n)) 1 9 (0 : Int32)) (Int32.ofNat m) then Int32.ofNat m else itr (B_askOf_24 (itr (bF p) 1 9 0, z) t (1 + n)) 1 9 (0 : Int32) := by
        have e : B_askOf_17 (itr (bF p) 1 9 0, z) t (1 + n) (Int32.ofNat m) = bif m_cmp .le (itr (B_askOf_24 (itr (bF p) 1 9 0, z) t (1 + n)) 1 (10 - 1) (0 : Int32)) (Int32.ofNat m) then Int32.ofNat m else itr (B_askOf_24 (itr (bF p) 1 9 0, z) t (1 + n)) 1 (10 - 1) (0 : Int32) := rfl
        rw [e, itr9]
      rw [eB, inner (1 + n) (by omega) (by omega) 9 (Nat.le_refl _)]
      have le : ∀ k, k < 1000 → m_cmp .le (Int32.ofNat k) (Int32.ofNat m) = decide (k ≤ m) := fun k hk => by
        by_cases y : k ≤ m
        · rw [decide_eq_true y]
          exact mle_iff.mpr (by rw [ofn_int (by omega), ofn_int (by omega)]; omega)
        · rw [decide_eq_false y]
          cases r : m_cmp .le (Int32.ofNat k) (Int32.ofNat m) with
          | false => rfl
          | true =>
            have := mle_iff.mp r
            rw [ofn_int (by omega), ofn_int (by omega)] at this
            omega
      cases q : p (1 + n) with
      | false =>
        rw [kF, le 0 (by omega), decide_eq_true (Nat.zero_le m), kT]
        refine ⟨m, rfl, m9, fun a a1 a2 a3 => ?_, ?_⟩
        · by_cases y : a = 1 + n
          · rw [y, q] at a3; cases a3
          · exact u a a1 (by omega) a3
        · rcases w with w | ⟨a, a1, a2, a3, a4⟩
          · exact Or.inl w
          · exact Or.inr ⟨a, a1, by omega, a3, a4⟩
      | true =>
        rw [kT, le _ (by omega)]
        by_cases y : cntE p (fun v => (x v).toNatClampNeg) 9 (x (1 + n)).toNatClampNeg ≤ m
        · rw [decide_eq_true y, kT]
          refine ⟨m, rfl, m9, fun a a1 a2 a3 => ?_, ?_⟩
          · by_cases v : a = 1 + n
            · rw [v]; exact y
            · exact u a a1 (by omega) a3
          · rcases w with w | ⟨a, a1, a2, a3, a4⟩
            · exact Or.inl w
            · exact Or.inr ⟨a, a1, by omega, a3, a4⟩
        · rw [decide_eq_false y, kF]
          refine ⟨_, rfl, bd, fun a a1 a2 a3 => ?_, Or.inr ⟨1 + n, by omega, by omega, q, rfl⟩⟩
          by_cases v : a = 1 + n
          · rw [v]; exact Nat.le_refl _
          · have := u a a1 (by omega) a3
            omega
  obtain ⟨m, e, m9, u, w⟩ := outer 9 (Nat.le_refl _)
  exact ⟨m, e, m9, u, w⟩
/-! the least of them, the first -/
def lsC (V : Nat → Int32) (v : Nat) (x : Int32 × Int32) : Int32 × Int32 := bif m_cmp .ge (V v) x.2 then x else (Int32.ofNat v, V v)
def lsM (V : Nat → Int32) (v : Nat) (x : Int32 × Int32) : Int32 × Int32 := bif m_cmp .eq (bif m_cmp .eq x.1 (-1) then (1 : Int32) else (bif m_cmp .ge (V v) x.2 then (0 : Int32) else (1 : Int32))) 0 then x else (Int32.ofNat v, V v)
theorem lsE (V : Nat → Int32) (x0 : Int32 × Int32) (y0 : Int32) (h0 : m_cmp .ge (V 0) x0.2 = false) : ∀ i, i < 900 → itr (lsC V) 0 (i + 1) x0 = itr (lsM V) 0 (i + 1) (-1, y0) ∧ ∃ k, k < 900 ∧ (itr (lsM V) 0 (i + 1) (-1, y0)).1 = Int32.ofNat k := by
  intro i
  induction i with
  | zero =>
    intro _
    rw [itr_0, itr_0, itr_z, itr_z]
    have e : lsC V 0 x0 = (Int32.ofNat 0, V 0) := by
      unfold lsC
      rw [h0, kF]
    have e2 : lsM V 0 (-1, y0) = (Int32.ofNat 0, V 0) := by
      unfold lsM
      show (bif m_cmp .eq (bif m_cmp .eq (-1) (-1) then (1 : Int32) else _) 0 then _ else _) = _
      rw [show m_cmp .eq (-1 : Int32) (-1) = true from rfl, kT, show m_cmp .eq (1 : Int32) 0 = false from rfl, kF]
    rw [e, e2]
    exact ⟨rfl, 0, by decide, rfl⟩
  | succ i ih =>
    intro hi
    obtain ⟨h1, k, hk, h2⟩ := ih (by omega)
    rw [itr_0, itr_0 (lsM V), h1]
    generalize itr (lsM V) 0 (i + 1) (-1, y0) = x at *
    have c : m_cmp .eq x.1 (-1) = false := by
      cases q : m_cmp .eq x.1 (-1) with
      | false => rfl
      | true =>
        have q := m_eq_iff.mp q
        rw [h2] at q
        exact absurd q (ofn_ne (by omega))
    unfold lsC lsM
    rw [c, kF]
    generalize V (i + 1) = y
    cases m_cmp .ge y x.2 with
    | true =>
      rw [kT, kT, show m_cmp .eq (0 : Int32) 0 = true from rfl, kT]
      exact ⟨rfl, k, hk, h2⟩
    | false =>
      rw [kF, kF, show m_cmp .eq (1 : Int32) 0 = false from rfl, kF]
      exact ⟨rfl, i + 1, hi, rfl⟩
theorem q_ask {s : SG} (h : KF s) (k : Int32) : QK (F_cask s k) (fun y => F_ask y k) := by
  refine ⟨(kf_ask h k).ag ((fr_ask _ k).ag DF rfl), ?_⟩
  have eC : F_cask s k = bif m_cmp .ne (F_cisRower s k) 0 then ((itr (B_cask_16 (F_possiblePowers s k)) 0 24 ((F_possiblePowers s k).2, 0, 10)).2.1, (itr (B_cask_16 (F_possiblePowers s k)) 0 24 ((F_possiblePowers s k).2, 0, 10)).1) else ((-2), s) := by
    dsimp only [F_cask]
  have eM : ∀ c : SG, F_ask c k = bif m_cmp .eq (F_isRower c k).1 0 then ((-2 : Int32), (F_isRower c k).2) else (F_askOf (F_isRower c k).2 k) := fun c => by
    dsimp only [F_ask]
  have eA : ∀ c : SG, F_askOf c k = ((itr (B_askOf_10 (F_powersBy c k)) 0 24 ((-1), 0)).1, (F_powersBy c k).2) := fun c => by
    dsimp only [F_askOf]
  rw [cisR_n] at eC
  cases q : bl k (s 10 0) with
  | false =>
    rw [q, kF] at eC
    rw [eC]
    dsimp only
    rw [eM, (isRw h.1.1.1 h.1.2.1 k).1, q, lF, kT]
  | true =>
    rw [q, kT] at eC
    obtain ⟨⟨x, o⟩, e, rows⟩ := psC h.1 k 9 (Nat.le_refl _)
    have eCP := ppE s k
    rw [eCP] at eC
    generalize itr (B_possiblePowers_9 k) 1 9 (F_take s, 0) = a at *
    obtain ⟨z, bits⟩ := a
    dsimp only at eC o e rows
    rw [e] at eC
    have fz := o.2.2.2.2.2
    have x20 : ∀ t v, 0 ≤ (spl' (trip (pJ s k.toNatClampNeg v) (t + 1))).toInt ∧ (spl' (trip (pJ s k.toNatClampNeg v) (t + 1))).toInt ≤ 20 := fun t v => plB _ _
    have ex : ∀ t, ∃ m, MXn (fun v => snB s (pJ s k.toNatClampNeg v)) (fun v => (spl' (trip (pJ s k.toNatClampNeg v) (t + 1))).toNatClampNeg) 9 m := fun t => by
      have key : ∀ n, ∃ m, MXn (fun v => snB s (pJ s k.toNatClampNeg v)) (fun v => (spl' (trip (pJ s k.toNatClampNeg v) (t + 1))).toNatClampNeg) n m := by
        intro n
        induction n with
        | zero => exact ⟨0, Nat.le_refl 0, fun a a1 a2 => absurd a1 (by omega), Or.inl rfl⟩
        | succ n ih =>
          obtain ⟨m, hm⟩ := ih
          obtain ⟨s1, s2⟩ := hm.step
          cases w : snB s (pJ s k.toNatClampNeg (1 + n)) with
          | false => exact ⟨m, s1 w⟩
          | true => exact ⟨_, s2 w⟩
      exact key 9
    obtain ⟨V, hV⟩ : ∃ V : Nat → Nat, ∀ t, MXn (fun v => snB s (pJ s k.toNatClampNeg v)) (fun v => (spl' (trip (pJ s k.toNatClampNeg v) (t + 1))).toNatClampNeg) 9 (V t) := ⟨fun t => (ex t).choose, fun t => (ex t).choose_spec⟩
    have A : ∀ i, i ≤ 24 → (∀ b j, b ≠ 108 → (itr (B_cask_16 (itr (bF fun v => snB s (pJ s k.toNatClampNeg v)) 1 9 0, z)) 0 i (z, 0, 10)).1 b j = z b j) ∧ (itr (B_cask_16 (itr (bF fun v => snB s (pJ s k.toNatClampNeg v)) 1 9 0, z)) 0 i (z, 0, 10)).2 = itr (lsC (fun t => Int32.ofNat (V t))) 0 i (0, 10) := by
      intro i
      induction i with
      | zero => exact fun _ => ⟨fun b j _ => rfl, rfl⟩
      | succ i ih =>
        intro hi
        obtain ⟨g1, g2⟩ := ih (by omega)
        rw [itr_0, itr_0, ← g2]
        generalize itr (B_cask_16 (itr (bF fun v => snB s (pJ s k.toNatClampNeg v)) 1 9 0, z)) 0 i (z, 0, 10) = a at *
        obtain ⟨m, m1, m2, m3⟩ := moC (z := a.1) (p := fun v => snB s (pJ s k.toNatClampNeg v)) (x := fun v => spl' (trip (pJ s k.toNatClampNeg v) (i + 1))) (t := i) (by omega) (fun v v1 v2 hv => (g1 _ _ (by omega)).trans (rows v v1 v2 hv i (by omega))) (x20 i)
        have em : m = V i := m2.uniq (hV i)
        have eB : B_cask_16 (itr (bF fun v => snB s (pJ s k.toNatClampNeg v)) 1 9 0, z) i a = ((F_mostAtOnePlace a.1 (itr (bF fun v => snB s (pJ s k.toNatClampNeg v)) 1 9 0) (Int32.ofNat i)).2, (bif m_cmp .ge (F_mostAtOnePlace a.1 (itr (bF fun v => snB s (pJ s k.toNatClampNeg v)) 1 9 0) (Int32.ofNat i)).1 a.2.2 then (a.2.1, a.2.2) else (Int32.ofNat i, (F_mostAtOnePlace a.1 (itr (bF fun v => snB s (pJ s k.toNatClampNeg v)) 1 9 0) (Int32.ofNat i)).1)).1, (bif m_cmp .ge (F_mostAtOnePlace a.1 (itr (bF fun v => snB s (pJ s k.toNatClampNeg v)) 1 9 0) (Int32.ofNat i)).1 a.2.2 then (a.2.1, a.2.2) else (Int32.ofNat i, (F_mostAtOnePlace a.1 (itr (bF fun v => snB s (pJ s k.toNatClampNeg v)) 1 9 0) (Int32.ofNat i)).1)).2) := by
          dsimp only [B_cask_16]
        rw [eB, m1, em]
        generalize F_mostAtOnePlace a.1 (itr (bF fun v => snB s (pJ s k.toNatClampNeg v)) 1 9 0) (Int32.ofNat i) = y at *
        refine ⟨fun b j hb => (m3 b j hb).trans (g1 b j hb), ?_⟩
        unfold lsC; (try dsimp only)
    obtain ⟨g1, g2⟩ := A 24 (Nat.le_refl _)
    rw [eC]
    generalize itr (B_cask_16 (itr (bF fun v => snB s (pJ s k.toNatClampNeg v)) 1 9 0, z)) 0 24 (z, 0, 10) = a at *
    obtain ⟨c, w⟩ := a
    dsimp only at g1 g2 ⊢
    have fc : Fr Wo s c := fun b j hb => by
      have n108 : b ≠ 108 := fun e => by rw [e] at hb; cases hb
      exact (g1 b j n108).trans (fz b j hb)
    obtain ⟨g, -⟩ := KG.sd h.1 fc
    obtain ⟨i1, i2⟩ := isRw g.1.1 g.2.1 k
    rw [eM, i1, fc 10 0 rfl, q, lT, kF, i2, eA]
    obtain ⟨d1, d2, -, d4⟩ := rdS h.1 fc k.toNatClampNeg
    obtain ⟨-, p2, p3⟩ := psM d1 k 9 (Nat.le_refl _)
    have eP := pwE (F_reads c) k
    rw [eP, p2, d2]
    rw [d4] at p3
    have u147 : ∀ j, uset (itr (B_powersBy_11 k) 1 9 (F_asTold (F_reads c), 0)).1 127 k.toNatClampNeg (F_asTold (F_reads c) 127 k.toNatClampNeg) 147 j = (itr (B_powersBy_11 k) 1 9 (F_asTold (F_reads c), 0)).1 147 j := fun j => uset_na (by decide)
    generalize uset (itr (B_powersBy_11 k) 1 9 (F_asTold (F_reads c), 0)).1 127 k.toNatClampNeg (F_asTold (F_reads c) 127 k.toNatClampNeg) = y at *
    have B : ∀ i, i ≤ 24 → itr (B_askOf_10 (itr (bF fun v => snB s (pJ s k.toNatClampNeg v)) 1 9 0, y)) 0 i ((-1), 0) = itr (lsM (fun t => Int32.ofNat (V t))) 0 i (-1, 0) := by
      intro i
      induction i with
      | zero =>
        intro _
        rw [itr_z, itr_z]
      | succ i ih =>
        intro hi
        rw [itr_0, itr_0, ih (by omega)]
        generalize itr (lsM (fun t => Int32.ofNat (V t))) 0 i (-1, 0) = b
        obtain ⟨m, m1, m2⟩ := moM (z := y) (p := fun v => snB s (pJ s k.toNatClampNeg v)) (x := fun v => spl' (trip (pJ s k.toNatClampNeg v) (i + 1))) (t := i) (fun v v1 v2 => (u147 _).trans (p3 v v1 v2 i (by omega))) (x20 i)
        have em : m = V i := m2.uniq (hV i)
        have eB : B_askOf_10 (itr (bF fun v => snB s (pJ s k.toNatClampNeg v)) 1 9 0, y) i b = (bif m_cmp .eq (bif m_cmp .eq b.1 (-1) then (1 : Int32) else (bif m_cmp .ge (itr (B_askOf_17 (itr (bF fun v => snB s (pJ s k.toNatClampNeg v)) 1 9 0, y) i) 1 9 (0 : Int32)) b.2 then (0 : Int32) else (1 : Int32))) 0 then b.1 else Int32.ofNat i, bif m_cmp .eq (bif m_cmp .eq b.1 (-1) then (1 : Int32) else (bif m_cmp .ge (itr (B_askOf_17 (itr (bF fun v => snB s (pJ s k.toNatClampNeg v)) 1 9 0, y) i) 1 9 (0 : Int32)) b.2 then (0 : Int32) else (1 : Int32))) 0 then b.2 else itr (B_askOf_17 (itr (bF fun v => snB s (pJ s k.toNatClampNeg v)) 1 9 0, y) i) 1 9 (0 : Int32)) := by
          have e : B_askOf_10 (itr (bF fun v => snB s (pJ s k.toNatClampNeg v)) 1 9 0, y) i b = (bif m_cmp .eq (bif m_cmp .eq b.1 (-1) then (1 : Int32) else (bif m_cmp .ge (itr (B_askOf_17 (itr (bF fun v => snB s (pJ s k.toNatClampNeg v)) 1 9 0, y) i) 1 (10 - 1) (0 : Int32)) b.2 then (0 : Int32) else (1 : Int32))) 0 then b.1 else Int32.ofNat i, bif m_cmp .eq (bif m_cmp .eq b.1 (-1) then (1 : Int32) else (bif m_cmp .ge (itr (B_askOf_17 (itr (bF fun v => snB s (pJ s k.toNatClampNeg v)) 1 9 0, y) i) 1 (10 - 1) (0 : Int32)) b.2 then (0 : Int32) else (1 : Int32))) 0 then b.2 else itr (B_askOf_17 (itr (bF fun v => snB s (pJ s k.toNatClampNeg v)) 1 9 0, y) i) 1 (10 - 1) (0 : Int32)) := rfl
          rw [e, itr9]
        rw [eB, m1, em]
        unfold lsM; (try dsimp only)
        generalize Int32.ofNat (V i) = u
        cases m_cmp .eq (bif m_cmp .eq b.1 (-1) then (1 : Int32) else (bif m_cmp .ge u b.2 then (0 : Int32) else (1 : Int32))) 0 <;> rfl
    rw [B 24 (Nat.le_refl _)]
    have L := (lsE (fun t => Int32.ofNat (V t)) (0, 10) 0 (by
      have v9 := (hV 0).1
      cases r : m_cmp .ge (Int32.ofNat (V 0)) 10 with
      | false => rfl
      | true =>
        have r := m_ge_iff.mp r
        rw [ofn_int (by omega)] at r
        have e10 : (10 : Int32).toInt = 10 := by decide
        omega) 23 (by decide)).1
    rw [mkF, g2, ← L]
