/-! fills; frames of bounded loops -/
def fil (s : SG) (a n : Nat) (v : Int32) : SG := fun b k => if b = a ∧ k < n then v else s b k
theorem Fr.fil {W : List (Nat × Nat × Option Nat)} {s s1 : SG} {a n : Nat} {v : Int32} (h : W.any (fun w => Nat.ble w.1 a && (Nat.ble a w.2.1 && w.2.2.isNone)) = true) (k : Fr W s s1) : Fr W s (fil s1 a n v) := fun b q hb => by
  show (if b = a ∧ q < n then v else s1 b q) = s b q
  by_cases e : b = a ∧ q < n
  · obtain ⟨w, w1, w2⟩ := List.any_eq_true.mp h
    obtain ⟨a1, c⟩ := b_and w2
    obtain ⟨c, d⟩ := b_and c
    have q2 : inW W b q = true := by
      refine List.any_eq_true.mpr ⟨w, w1, ?_⟩
      rw [e.1, a1, c, Option.isNone_iff_eq_none.mp d]
      rfl
    rw [q2] at hb
    cases hb
  · rw [if_neg e]
    exact k b q hb
theorem frItrB {α : Type} {W : List (Nat × Nat × Option Nat)} {s : SG} {m : α → SG} {f : Nat → α → α} (hi : Nat) (hf : ∀ i a, i < hi → Fr W (m a) (m (f i a))) : ∀ (n lo : Nat) (a : α), lo + n ≤ hi → Fr W s (m a) → Fr W s (m (itr f lo n a))
  | 0, _, _, _, k => k
  | n + 1, lo, a, h, k => frItrB hi hf n (lo + 1) (f lo a) (by omega) (k.tr (hf lo a (by omega)))
theorem inW_r {W : List (Nat × Nat × Option Nat)} {a j : Nat} (lo hi : Nat) (h1 : lo ≤ a) (h2 : a ≤ hi) (hm : W.any (fun w => w.1 == lo && (w.2.1 == hi && w.2.2.isNone)) = true) : inW W a j = true := by
  obtain ⟨w, w1, w2⟩ := List.any_eq_true.mp hm
  obtain ⟨a1, c⟩ := b_and w2
  obtain ⟨c, d⟩ := b_and c
  have a1 : w.1 = lo := by simpa using a1
  have c : w.2.1 = hi := by simpa using c
  refine List.any_eq_true.mpr ⟨w, w1, ?_⟩
  rw [a1, c, Option.isNone_iff_eq_none.mp d, Nat.ble_eq.mpr h1, Nat.ble_eq.mpr h2]
  rfl
theorem fil_s (s : SG) (a n : Nat) (v : Int32) : uset (fil s a n v) a n v = fil s a (n + 1) v := by
  funext b k
  show (if b = a ∧ k = n then v else if b = a ∧ k < n then v else s b k) = if b = a ∧ k < n + 1 then v else s b k
  by_cases e : b = a
  · by_cases h1 : k = n
    · rw [if_pos ⟨e, h1⟩, if_pos ⟨e, by omega⟩]
    · rw [if_neg (fun q => h1 q.2)]
      by_cases h2 : k < n
      · rw [if_pos ⟨e, h2⟩, if_pos ⟨e, by omega⟩]
      · rw [if_neg (fun q => h2 q.2), if_neg (fun q => h2 (by omega))]
  · rw [if_neg (fun q => e q.1), if_neg (fun q => e q.1), if_neg (fun q => e q.1)]
theorem fil_0 (s : SG) (a : Nat) (v : Int32) : fil s a 0 v = s := by
  funext b k
  exact if_neg (fun q => by omega)
theorem ux_fill (s : SG) (a : Nat) (v : Int32) (n : Nat) (hn : uln a = n) (h : n < 2147483648) : UP m_J7_fill_53178 0 (m_ent 4 [.ref a, .int v]) [] s (Qv (fil s a n v)) := by
  have key : ∀ (m i : Nat), i + m = n → UP m_J7_fill_53178 5 [some (.ref a), some (.int v), some (.int (Int32.ofNat i)), some (.int (Int32.ofNat n))] [] (fil s a i v) (Qv (fil s a n v)) := by
    intro m
    have e0 : (Int32.ofNat n).toNatClampNeg = n := Int32.toNatClampNeg_ofNat_of_lt h
    induction m with
    | zero =>
      intro i hi
      have e : i = n := by omega
      subst e
      refine UP.stp 2 (i1 := 7) (L1 := [some (.ref a), some (.int v), some (.int (Int32.ofNat i)), some (.int (Int32.ofNat i))]) (st1 := [.int (Int32.ofNat i), .int (Int32.ofNat i)]) (s1 := fil s a i v) rfl ?_
      refine UP.icT rfl (by have := ge_T (Int32.ofNat i); rw [e0] at this; exact this) ?_
      exact UP.ret (r := none) rfl ⟨rfl, rfl⟩
    | succ m ih =>
      intro i hi
      refine UP.stp 2 (i1 := 7) (L1 := [some (.ref a), some (.int v), some (.int (Int32.ofNat i)), some (.int (Int32.ofNat n))]) (st1 := [.int (Int32.ofNat n), .int (Int32.ofNat i)]) (s1 := fil s a i v) rfl ?_
      refine UP.icF rfl (ge_F (by rw [e0]; omega)) ?_
      refine UP.stp 3 (i1 := 11) (L1 := [some (.ref a), some (.int v), some (.int (Int32.ofNat i)), some (.int (Int32.ofNat n))]) (st1 := [.int v, .int (Int32.ofNat i), .ref a]) (s1 := fil s a i v) rfl ?_
      refine UP.ast (e := i) rfl rfl (by omega) ?_
      rw [fil_s]
      refine UP.stp 2 (i1 := 5) (L1 := [some (.ref a), some (.int v), some (.int (Int32.ofNat i + 1)), some (.int (Int32.ofNat n))]) (st1 := []) (s1 := fil s a (i + 1) v) rfl ?_
      rw [ofn_s]
      exact ih (i + 1) (by omega)
  refine UP.stp 5 (i1 := 5) (L1 := [some (.ref a), some (.int v), some (.int 0), some (.int (Int32.ofNat (uln a)))]) (st1 := []) (s1 := s) rfl ?_
  rw [hn]
  have k := key n 0 (by omega)
  rw [fil_0] at k
  exact k
