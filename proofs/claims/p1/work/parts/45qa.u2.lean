/-! fills; frames of bounded loops -/
def fil (s : SG) (a n : Nat) (v : Int32) : SG := fun b k => if b = a ∧ k < n then v else s b k
theorem Fr.fil {W : List (Nat × Nat × Option Nat)} {s s1 : SG} {a n : Nat} {v : Int32} (h : W.any (fun w => Nat.ble w.1 a && (Nat.ble a w.2.1 && w.2.2.isNone)) = true) (k : Fr W s s1) : Fr W s (fil s1 a n v) := fun b q hb => by
  show (if b = a ∧ q < n then v else s1 b q) = s b q
  by_cases e : b = a ∧ q < n
  · obtain ⟨w, w1, w2⟩ := List.any_eq_true.mp h
    obtain ⟨a1, c⟩ := b_and w2
    obtain ⟨c, d⟩ := b_and c
    have q2 : inW W b q = true := by
      refine List.any_eq_true.mpr ⟨w, w1, ?_⟩
      rw [e.1, a1, c, Option.isNone_iff_eq_none.mp d]
      rfl
    rw [q2] at hb
    cases hb
  · rw [if_neg e]
    exact k b q hb
theorem frItrB {α : Type} {W : List (Nat × Nat × Option Nat)} {s : SG} {m : α → SG} {f : Nat → α → α} (hi : Nat) (hf : ∀ i a, i < hi → Fr W (m a) (m (f i a))) : ∀ (n lo : Nat) (a : α), lo + n ≤ hi → Fr W s (m a) → Fr W s (m (itr f lo n a))
  | 0, _, _, _, k => k
  | n + 1, lo, a, h, k => frItrB hi hf n (lo + 1) (f lo a) (by omega) (k.tr (hf lo a (by omega)))
theorem inW_r {W : List (Nat × Nat × Option Nat)} {a j : Nat} (lo hi : Nat) (h1 : lo ≤ a) (h2 : a ≤ hi) (hm : W.any (fun w => w.1 == lo && (w.2.1 == hi && w.2.2.isNone)) = true) : inW W a j = true := by
  obtain ⟨w, w1, w2⟩ := List.any_eq_true.mp hm
  obtain ⟨a1, c⟩ := b_and w2
  obtain ⟨c, d⟩ := b_and c
  have a1 : w.1 = lo := by simpa using a1
  have c : w.2.1 = hi := by simpa using c
  refine List.any_eq_true.mpr ⟨w, w1, ?_⟩
  rw [a1, c, Option.isNone_iff_eq_none.mp d, Nat.ble_eq.mpr h1, Nat.ble_eq.mpr h2]
  rfl
theorem fil_s (s : SG) (a n : Nat) (v : Int32) : uset (fil s a n v) a n v = fil s a (n + 1) v := by
  funext b k
  show (if b = a ∧ k = n then v else if b = a ∧ k < n then v else s b k) = if b = a ∧ k < n + 1 then v else s b k
  by_cases e : b = a
  · by_cases h1 : k = n
    · rw [if_pos ⟨e, h1⟩, if_pos ⟨e, by omega⟩]
    · rw [if_neg (fun q => h1 q.2)]
      by_cases h2 : k < n
      · rw [if_pos ⟨e, h2⟩, if_pos ⟨e, by omega⟩]
      · rw [if_neg (fun q => h2 q.2), if_neg (fun q => h2 (by omega))]
  · rw [if_neg (fun q => e q.1), if_neg (fun q => e q.1), if_neg (fun q => e q.1)]
theorem fil_0 (s : SG) (a : Nat) (v : Int32) : fil s a 0 v = s := by
  funext b k
  exact if_neg (fun q => by omega)
theorem ux_fill (s : SG) (a : Nat) (v : Int32) (n : Nat) (hn : uln a = n) (h : n < 2147483648) : UP m_J7_fill_53178 0 (m_ent 4 [.ref a, .int v]) [] s (Qv (fil s a n v)) := by
  have key : ∀ (m i : Nat), i + m = n → UP m_J7_fill_53178 5 [some (.ref a), some (.int v), some (.int (Int32.ofNat i)), some (.int (Int32.ofNat n))] [] (fil s a i v) (Qv (fil s a n v)) := by
    intro m
    have e0 : (Int32.ofNat n).toNatClampNeg = n := Int32.toNatClampNeg_ofNat_of_lt h
    induction m with
    | zero =>
      intro i hi
      have e : i = n := by omega
      subst e
      refine UP.stp 2 (i1 := 7) (L1 := [some (.ref a), some (.int v), some (.int (Int32.ofNat i)), some (.int (Int32.ofNat i))]) (st1 := [.int (Int32.ofNat i), .int (Int32.ofNat i)]) (s1 := fil s a i v) rfl ?_
      refine UP.icT rfl (by have := ge_T (Int32.ofNat i); rw [e0] at this; exact this) ?_
      exact UP.ret (r := none) rfl ⟨rfl, rfl⟩
    | succ m ih =>
      intro i hi
      refine UP.stp 2 (i1 := 7) (L1 := [some (.ref a), some (.int v), some (.int (Int32.ofNat i)), some (.int (Int32.ofNat n))]) (st1 := [.int (Int32.ofNat n), .int (Int32.ofNat i)]) (s1 := fil s a i v) rfl ?_
      refine UP.icF rfl (ge_F (by rw [e0]; omega)) ?_
      refine UP.stp 3 (i1 := 11) (L1 := [some (.ref a), some (.int v), some (.int (Int32.ofNat i)), some (.int (Int32.ofNat n))]) (st1 := [.int v, .int (Int32.ofNat i), .ref a]) (s1 := fil s a i v) rfl ?_
      refine UP.ast (e := i) rfl rfl (by omega) ?_
      rw [fil_s]
      refine UP.stp 2 (i1 := 5) (L1 := [some (.ref a), some (.int v), some (.int (Int32.ofNat i + 1)), some (.int (Int32.ofNat n))]) (st1 := []) (s1 := fil s a (i + 1) v) rfl ?_
      rw [ofn_s]
      exact ih (i + 1) (by omega)
  refine UP.stp 5 (i1 := 5) (L1 := [some (.ref a), some (.int v), some (.int 0), some (.int (Int32.ofNat (uln a)))]) (st1 := []) (s1 := s) rfl ?_
  rw [hn]
  have k := key n 0 (by omega)
  rw [fil_0] at k
  exact k
/-! loops that may be left -/
def itx {α β : Type} (f : Nat → α → α ⊕ β) : Nat → Nat → α → α ⊕ (Nat × β)
  | _, 0, a => .inl a
  | lo, n + 1, a => match f lo a with
    | .inl x => itx f (lo + 1) n x
    | .inr b => .inr (lo, b)
def Kx {α β : Type} (G : Nat → α → Prop) (E : Nat → β → Prop) (i : Nat) (v : α ⊕ β) : Prop := match v with
  | .inl a => G (i + 1) a
  | .inr b => E i b
theorem lpx {α β : Type} (G : Nat → α → Prop) (E : Nat → β → Prop) (I : Nat → α → Prop) (f : Nat → α → α ⊕ β) (hi : Nat) (inv : ∀ i a x, i < hi → I i a → f i a = .inl x → I (i + 1) x) (stp : ∀ i a, i < hi → I i a → Kx G E i (f i a) → G i a) : ∀ (n lo : Nat) (a : α), lo + n = hi → I lo a → (∀ z, itx f lo n a = .inl z → I hi z → G hi z) → (∀ i a2 b, itx f lo n a = .inr (i, b) → i < hi → I i a2 → f i a2 = .inr b → E i b) → G lo a
  | 0, lo, a, hn, hI, k, _ => by
    have e : lo = hi := by omega
    subst e
    exact k a rfl hI
  | n + 1, lo, a, hn, hI, k, kx => by
    have hlt : lo < hi := by omega
    refine stp lo a hlt hI ?_
    cases hf : f lo a with
    | inl x =>
      have e : itx f lo (n + 1) a = itx f (lo + 1) n x := by
        show (match f lo a with | .inl x => itx f (lo + 1) n x | .inr b => .inr (lo, b)) = _
        rw [hf]
      rw [e] at k kx
      exact lpx G E I f hi inv stp n (lo + 1) x (by omega) (inv lo a x hlt hI hf) k kx
    | inr b =>
      have e : itx f lo (n + 1) a = .inr (lo, b) := by
        show (match f lo a with | .inl x => itx f (lo + 1) n x | .inr b => .inr (lo, b)) = _
        rw [hf]
      exact kx lo a b e hlt hI hf
theorem brk {γ : Type} {K : γ → Prop} {G : Prop} (b : Bool) (X Y : γ) (k : K (bif b then X else Y)) (ht : b = true → K X → G) (hf : b = false → K Y → G) : G := by
  cases b with
  | true => exact ht rfl k
  | false => exact hf rfl k
theorem UP.eqT {M : MM} {i : Nat} {L : ML} {st : List Value} {s : SG} {β : Type} {Q : β → Option Value → SG → Prop} {T : β} (X : β) (hT : T = X) (k : UP M i L st s (Q X)) : UP M i L st s (Q T) := by
  subst hT
  exact k
theorem gt_F {i : Nat} {v : Int32} (h : i ≤ v.toNatClampNeg) (hv : 0 ≤ v.toInt) : m_cmp .gt (Int32.ofNat i) v = false := by
  cases hc : m_cmp .gt (Int32.ofNat i) v with
  | false => rfl
  | true =>
    have h0 := cl_lt v
    have h1 := m_gt_iff.mp hc
    rw [ofn_int (by omega)] at h1
    have h : i ≤ v.toInt.toNat := h
    omega
theorem gt_T {i : Nat} {v : Int32} (h : v.toNatClampNeg < i) (hi : i < 2147483648) : m_cmp .gt (Int32.ofNat i) v = true := m_gt_iff.mpr (by
  rw [ofn_int hi]
  have h : v.toInt.toNat < i := h
  omega)
/-- one cell's ints, looked at -/
theorem uset_eq (s : SG) (a j : Nat) (x : Int32) : uset s a j x a j = x := if_pos ⟨rfl, rfl⟩
theorem uset_ne {s : SG} {a j b k : Nat} {x : Int32} (h : ¬ (b = a ∧ k = j)) : uset s a j x b k = s b k := if_neg h
theorem uset_na {s : SG} {a j b k : Nat} {x : Int32} (h : ¬ b = a) : uset s a j x b k = s b k := if_neg (fun q => h q.1)
theorem uset_nj {s : SG} {a j b k : Nat} {x : Int32} (h : ¬ k = j) : uset s a j x b k = s b k := if_neg (fun q => h q.2)
theorem ne_int {x c : Int32} (h : m_cmp .eq x c = false) : x.toInt ≠ c.toInt := fun e => by
  have := m_ff m_eq_iff h
  exact this (Int32.toInt_inj.mp e)
theorem UP.swT {M : MM} {i : Nat} {L : ML} {st : List Value} {s : SG} {P : Option Value → SG → Prop} {pc len : Nat} {ops : List Int} {d lo hi : Int} {offs : Array Int} {x : Int32} (c : Int32) (hrow : (mc M)[i]? = some (pc, .tableswitch d lo hi offs, len, ops)) (hx : m_cmp .eq x c = true) (h1 : lo ≤ c.toInt) (h2 : c.toInt ≤ hi) (k : UP M (m_n ops ((c.toInt - lo).toNat + 1)) L st s P) : UP M i L (.int x :: st) s P := by
  have e := m_eq_iff.mp hx
  subst e
  refine UP.one ?_ k
  unfold ustep
  rw [hrow]
  show (if x.toInt < lo ∨ hi < x.toInt then some (Sum.inl (m_n ops 0, [], st, [])) else some (Sum.inl (m_n ops ((x.toInt - lo).toNat + 1), [], st, []))).map (uo L s) = _
  rw [if_neg (by omega)]
  rfl
theorem UP.swD {M : MM} {i : Nat} {L : ML} {st : List Value} {s : SG} {P : Option Value → SG → Prop} {pc len : Nat} {ops : List Int} {d lo hi : Int} {offs : Array Int} {x : Int32} (hrow : (mc M)[i]? = some (pc, .tableswitch d lo hi offs, len, ops)) (h : x.toInt < lo ∨ hi < x.toInt) (k : UP M (m_n ops 0) L st s P) : UP M i L (.int x :: st) s P := by
  refine UP.one ?_ k
  unfold ustep
  rw [hrow]
  show (if x.toInt < lo ∨ hi < x.toInt then some (Sum.inl (m_n ops 0, [], st, [])) else some (Sum.inl (m_n ops ((x.toInt - lo).toNat + 1), [], st, []))).map (uo L s) = _
  rw [if_pos h]
  rfl
theorem itx_last {α β : Type} (f : Nat → α → α ⊕ β) : ∀ (n lo : Nat) (a z : α), itx f lo (n + 1) a = .inl z → ∃ x, f (lo + n) x = .inl z
  | 0, lo, a, z, h => by
    have h : (match f lo a with | .inl x => itx f (lo + 1) 0 x | .inr b => .inr (lo, b)) = .inl z := h
    split at h
    · rename_i x hx
      have h : (Sum.inl x : α ⊕ (Nat × β)) = .inl z := h
      cases h
      exact ⟨a, hx⟩
    · cases h
  | n + 1, lo, a, z, h => by
    have h : (match f lo a with | .inl x => itx f (lo + 1) (n + 1) x | .inr b => .inr (lo, b)) = .inl z := h
    split at h
    · rename_i x hx
      obtain ⟨y, hy⟩ := itx_last f n (lo + 1) x z h
      exact ⟨y, by rw [show lo + (n + 1) = lo + 1 + n by omega]; exact hy⟩
    · cases h
theorem frItx {α β : Type} {W : List (Nat × Nat × Option Nat)} {s : SG} {m1 : α → SG} {m2 : β → SG} {f : Nat → α → α ⊕ β} (hi : Nat) (hf : ∀ i a, i < hi → Fr W (m1 a) (Sum.elim m1 m2 (f i a))) : ∀ (n lo : Nat) (a : α), lo + n ≤ hi → Fr W s (m1 a) → Fr W s (Sum.elim m1 (fun x : Nat × β => m2 x.2) (itx f lo n a))
  | 0, _, _, _, k => k
  | n + 1, lo, a, h, k => by
    have q := hf lo a (by omega)
    show Fr W s (Sum.elim m1 (fun x : Nat × β => m2 x.2) (match f lo a with | .inl x => itx f (lo + 1) n x | .inr b => .inr (lo, b)))
    cases hfa : f lo a with
    | inl x =>
      rw [hfa] at q
      exact frItx hi hf n (lo + 1) x (by omega) (k.tr q)
    | inr b =>
      rw [hfa] at q
      exact k.tr q
theorem frElim {α β γ : Type} {W : List (Nat × Nat × Option Nat)} {s : SG} {m : γ → SG} {X : α → γ} {Y : β → γ} {x : α ⊕ β} (h1 : ∀ a, x = .inl a → Fr W s (m (X a))) (h2 : ∀ b, x = .inr b → Fr W s (m (Y b))) : Fr W s (m (Sum.elim X Y x)) := by
  cases x with
  | inl a => exact h1 a rfl
  | inr b => exact h2 b rfl
