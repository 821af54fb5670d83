/-! chance: the model's side; both answers -/
theorem cmpB : ∀ N, N < 9 → ∀ m, m < 2 ^ N → ∀ e, e < N → bitB (Int32.ofNat m) e = !(bitB (Int32.ofNat (2 ^ N - 1 - m)) e) := by decide +kernel
theorem smN_c {g d : Nat → Nat} (k : Nat) (h : ∀ m, m < k → g m = d m) : smN g k = smN d k := by
  induction k with
  | zero => unfold smN; rw [itr_z, itr_z]
  | succ k ih => rw [smN_s, smN_s, ih (fun m hm => h m (by omega)), h k (by omega)]
theorem smN_r (g : Nat → Nat) (M : Nat) : ∀ k, k ≤ M → smN (fun m => g (M - 1 - m)) k + smN g (M - k) = smN g M := by
  intro k
  induction k with
  | zero =>
    intro _
    have e : smN (fun m => g (M - 1 - m)) 0 = 0 := by unfold smN; rw [itr_z]
    rw [e, Nat.zero_add, Nat.sub_zero]
  | succ k ih =>
    intro hk
    have h := ih (by omega)
    rw [show M - k = (M - (k + 1)) + 1 by omega, smN_s] at h
    rw [smN_s]
    (try dsimp only)
    rw [show M - 1 - k = M - (k + 1) by omega]
    omega
theorem smN_rev (g : Nat → Nat) (M : Nat) : smN (fun m => g (M - 1 - m)) M = smN g M := by
  have h := smN_r g M M (Nat.le_refl _)
  have e : smN g (M - M) = 0 := by rw [Nat.sub_self]; unfold smN; rw [itr_z]
  omega
theorem gfi_t (J : TI) (i : Nat) : i ≤ 24 → gfi J i = -1 ∨ ∃ t, t < i ∧ gfi J i = Int32.ofNat t := by
  induction i with
  | zero => exact fun _ => Or.inl (gfi_0 J)
  | succ i ih =>
    intro hi
    rw [gfi_s]
    have h := ih (by omega)
    cases m_cmp .eq (gr' J i (trip J i)) 0 with
    | true =>
      rw [kT]
      rcases h with h | ⟨t, t1, t2⟩
      · exact Or.inl h
      · exact Or.inr ⟨t, by omega, t2⟩
    | false =>
      rw [kF]
      cases m_cmp .ne (gfi J i) (-1) with
      | true =>
        rw [kT]
        rcases h with h | ⟨t, t1, t2⟩
        · exact Or.inl h
        · exact Or.inr ⟨t, by omega, t2⟩
      | false =>
        rw [kF]
        exact Or.inr ⟨i, by omega, rfl⟩
theorem in_ag (y s : SG) (mi mask : Int32) : m_cmp .eq (F_in y (gfi (inC_a s mask) 24) 0 mi) 0 = !(agB s mi mask) := by
  have eF : F_in y (gfi (inC_a s mask) 24) 0 mi = bif m_cmp .lt (gfi (inC_a s mask) 24) 0 then (0 : Int32) else (bif m_cmp .gt (gfi (inC_a s mask) 24) mi then (0 : Int32) else (1 : Int32)) := rfl
  rw [eF]
  unfold agB
  have e : m_cmp .lt (gfi (inC_a s mask) 24) 0 = m_cmp .eq (gfi (inC_a s mask) 24) (-1) := by
    rcases gfi_t (inC_a s mask) 24 (Nat.le_refl _) with h | ⟨t, t1, t2⟩
    · rw [h]; rfl
    · rw [t2]
      have e0 : (0 : Int32).toInt = 0 := by decide
      have a : m_cmp .lt (Int32.ofNat t) 0 = false := by
        cases q : m_cmp .lt (Int32.ofNat t) 0 with
        | false => rfl
        | true =>
          have q := m_lt_iff.mp q
          rw [ofn_int (by omega)] at q
          omega
      have b : m_cmp .eq (Int32.ofNat t) (-1) = false := by
        cases q : m_cmp .eq (Int32.ofNat t) (-1) with
        | false => rfl
        | true => exact absurd (m_eq_iff.mp q) (ofn_ne (by omega))
      rw [a, b]
  rw [e]
  generalize gfi (inC_a s mask) 24 = g
  cases m_cmp .eq g (-1) with
  | true => rfl
  | false =>
    cases m_cmp .gt g mi <;> rfl
/-! Euclid -/
theorem lgN {y : Nat} (h : y < 4611686018427387904) (h0 : 0 < y) : m_cmp .eq (lg_cmp (Int64.ofNat y) 0) 0 = false := by
  cases q : m_cmp .eq (lg_cmp (Int64.ofNat y) 0) 0 with
  | false => rfl
  | true => exact absurd ((lg_cmp_0 _).mp (m_eq_iff.mp q)) (l_ne0 h h0)
theorem eucL (s : SG) {t b g : Nat} (ht : t < 4611686018427387904) (hb : b < 4611686018427387904) (hg : 0 < g) (hg2 : g < 4611686018427387904) (wh : Int32) : ∀ (k y x : Nat) (u6 u8 u9 u10 : Option Value), y ≤ k → x < 4611686018427387904 → y < 4611686018427387904 → Nat.gcd x y = g → UP m_X7_lowest 4 [some (.long (Int64.ofNat t)), none, some (.long (Int64.ofNat b)), none, some (.int wh), some (.long (Int64.ofNat x)), u6, some (.long (Int64.ofNat y)), u8, u9, u10] [] s (Qj s (anC wh (t / g, b / g))) := by
  intro k
  induction k with
  | zero =>
    intro y x u6 u8 u9 u10 hk hx hy he
    have e : y = 0 := by omega
    subst e
    rw [Nat.gcd_zero_right] at he
    subst he
    refine UP.stp 3 (i1 := 7) (L1 := [some (.long (Int64.ofNat t)), none, some (.long (Int64.ofNat b)), none, some (.int wh), some (.long (Int64.ofNat x)), u6, some (.long (Int64.ofNat 0)), u8, u9, u10]) (st1 := [.int (lg_cmp (Int64.ofNat 0) 0)]) (s1 := s) rfl ?_
    refine UP.ifT rfl rfl ?_
    refine UP.stp 1 (i1 := 18) (L1 := [some (.long (Int64.ofNat t)), none, some (.long (Int64.ofNat b)), none, some (.int wh), some (.long (Int64.ofNat x)), u6, some (.long (Int64.ofNat 0)), u8, u9, u10]) (st1 := [.int wh]) (s1 := s) rfl ?_
    unfold anC
    cases q : m_cmp .ne wh 0 with
    | true =>
      refine UP.ifT rfl q ?_
      refine UP.stp 2 (i1 := 25) (L1 := [some (.long (Int64.ofNat t)), none, some (.long (Int64.ofNat b)), none, some (.int wh), some (.long (Int64.ofNat x)), u6, some (.long (Int64.ofNat 0)), u8, u9, u10]) (st1 := [.long (Int64.ofNat x), .long (Int64.ofNat b)]) (s1 := s) rfl ?_
      refine UP.jv rfl (l_ne0 hx hg) ?_
      rw [l_div hb hx]
      exact UP.ret (r := some (.long (Int64.ofNat (b / x)))) rfl ⟨rfl, rfl⟩
    | false =>
      refine UP.ifF rfl q ?_
      refine UP.stp 2 (i1 := 21) (L1 := [some (.long (Int64.ofNat t)), none, some (.long (Int64.ofNat b)), none, some (.int wh), some (.long (Int64.ofNat x)), u6, some (.long (Int64.ofNat 0)), u8, u9, u10]) (st1 := [.long (Int64.ofNat x), .long (Int64.ofNat t)]) (s1 := s) rfl ?_
      refine UP.jv rfl (l_ne0 hx hg) ?_
      rw [l_div ht hx]
      refine UP.stp 1 (i1 := 26) (L1 := [some (.long (Int64.ofNat t)), none, some (.long (Int64.ofNat b)), none, some (.int wh), some (.long (Int64.ofNat x)), u6, some (.long (Int64.ofNat 0)), u8, u9, u10]) (st1 := [.long (Int64.ofNat (t / x))]) (s1 := s) rfl ?_
      exact UP.ret (r := some (.long (Int64.ofNat (t / x)))) rfl ⟨rfl, rfl⟩
  | succ k ih =>
    intro y x u6 u8 u9 u10 hk hx hy he
    by_cases w : y = 0
    · exact ih y x u6 u8 u9 u10 (by omega) hx hy he
    · refine UP.stp 3 (i1 := 7) (L1 := [some (.long (Int64.ofNat t)), none, some (.long (Int64.ofNat b)), none, some (.int wh), some (.long (Int64.ofNat x)), u6, some (.long (Int64.ofNat y)), u8, u9, u10]) (st1 := [.int (lg_cmp (Int64.ofNat y) 0)]) (s1 := s) rfl ?_
      refine UP.ifF rfl (lgN hy (by omega)) ?_
      refine UP.stp 2 (i1 := 10) (L1 := [some (.long (Int64.ofNat t)), none, some (.long (Int64.ofNat b)), none, some (.int wh), some (.long (Int64.ofNat x)), u6, some (.long (Int64.ofNat y)), u8, u9, u10]) (st1 := [.long (Int64.ofNat y), .long (Int64.ofNat x)]) (s1 := s) rfl ?_
      refine UP.jd rfl (l_ne0 hy (by omega)) ?_
      rw [l_rem hx hy]
      refine UP.stp 6 (i1 := 4) (L1 := [some (.long (Int64.ofNat t)), none, some (.long (Int64.ofNat b)), none, some (.int wh), some (.long (Int64.ofNat y)), u6, some (.long (Int64.ofNat (x % y))), u8, some (.long (Int64.ofNat (x % y))), u10]) (st1 := []) (s1 := s) rfl ?_
      have l : x % y < y := Nat.mod_lt x (by omega)
      refine ih (x % y) y u6 u8 _ u10 (by omega) hy (by omega) ?_
      rw [← he, Nat.gcd_comm x y, Nat.gcd_rec y x, Nat.gcd_comm]
theorem ux_low (s : SG) {t m : Nat} (ht : t < 4611686018427387904) (hm : m ≤ 32) (wh : Int32) : UP m_X7_lowest 0 (m_ent 11 [.long (Int64.ofNat t), .long (Int64.ofNat (2 ^ m)), .int wh]) [] s (Qj s (anC wh (hv 32 t (2 ^ m)))) := by
  have p : 2 ^ m ≤ 4294967296 := Nat.le_trans (Nat.pow_le_pow_right (by decide) hm) (by decide)
  have p1 : 1 ≤ 2 ^ m := Nat.one_le_two_pow
  have g0 : 0 < Nat.gcd t (2 ^ m) := Nat.gcd_pos_of_pos_right t (by omega)
  have g1 : Nat.gcd t (2 ^ m) ≤ 2 ^ m := Nat.gcd_le_right t (by omega)
  refine UP.stp 4 (i1 := 4) (L1 := [some (.long (Int64.ofNat t)), none, some (.long (Int64.ofNat (2 ^ m))), none, some (.int wh), some (.long (Int64.ofNat t)), none, some (.long (Int64.ofNat (2 ^ m))), none, none, none]) (st1 := []) (s1 := s) rfl ?_
  rw [hv_g 32 m t hm]
  exact eucL s ht (by omega) g0 (by omega) wh _ _ _ _ _ _ _ (Nat.le_refl _) ht (by omega) rfl
/-! the model's sum -/
def MPl (c : SG) (T : Int64) (v : Option Value) (s1 : SG) : Prop := v = some (.long T) ∧ MtE c s1
theorem inL {c : SG} {N C : Nat} (g : KG c) (hN : N ≤ 8) (eN : c 2 3 = Int32.ofNat N) (hC : C ≤ 16) (mi wh : Int32) (m : Nat) (S : Int64) (T : Int64) (w : SG) (hm : MtE c w) (u5 u8 : Option Value) (hout : ∀ (v8 v9 : Option Value), UP m_X7_chanceOf 36 [some (.ref 123), some (.int (Int32.ofNat C)), some (.int mi), some (.int wh), some (.long S), u5, some (.int (Int32.ofNat m)), some (.long (Int64.ofNat (wN N C (fun e => !(bitB (Int32.ofNat m) e))))), v8, v9] [] w (MPl c T)) : ∀ (n e : Nat), e + n = N → UP m_X7_chanceOf 16 [some (.ref 123), some (.int (Int32.ofNat C)), some (.int mi), some (.int wh), some (.long S), u5, some (.int (Int32.ofNat m)), some (.long (Int64.ofNat (wN e C (fun e => !(bitB (Int32.ofNat m) e))))), u8, some (.int (Int32.ofNat e))] [] w (MPl c T) := by
  intro n
  induction n with
  | zero =>
    intro e he
    have ee : e = N := by omega
    subst ee
    refine UP.stp 3 (i1 := 19) (L1 := [some (.ref 123), some (.int (Int32.ofNat C)), some (.int mi), some (.int wh), some (.long S), u5, some (.int (Int32.ofNat m)), some (.long (Int64.ofNat (wN e C (fun e => !(bitB (Int32.ofNat m) e))))), u8, some (.int (Int32.ofNat e))]) (st1 := [.int (w 123 11), .int (Int32.ofNat e)]) (s1 := w) rfl ?_
    rw [n11 g.2.2.1 eN hm]
    refine UP.icT rfl geT' ?_
    exact hout _ _
  | succ n ih =>
    intro e he
    refine UP.stp 3 (i1 := 19) (L1 := [some (.ref 123), some (.int (Int32.ofNat C)), some (.int mi), some (.int wh), some (.long S), u5, some (.int (Int32.ofNat m)), some (.long (Int64.ofNat (wN e C (fun e => !(bitB (Int32.ofNat m) e))))), u8, some (.int (Int32.ofNat e))]) (st1 := [.int (w 123 11), .int (Int32.ofNat e)]) (s1 := w) rfl ?_
    rw [n11 g.2.2.1 eN hm]
    refine UP.icF rfl (geF' (by omega) (by omega)) ?_
    have nx := ih (e + 1) (by omega)
    rw [wN_s, Int64.ofNat_mul] at nx
    generalize wN e C (fun e => !(bitB (Int32.ofNat m) e)) = x at *
    refine UP.stp 3 (i1 := 23) (L1 := [some (.ref 123), some (.int (Int32.ofNat C)), some (.int mi), some (.int wh), some (.long S), u5, some (.int (Int32.ofNat m)), some (.long (Int64.ofNat x)), u8, some (.int (Int32.ofNat e))]) (st1 := [.int (Int32.ofNat e), .int (Int32.ofNat m), .long (Int64.ofNat x)]) (s1 := w) rfl ?_
    refine UP.cI (M1 := m_X7_isIn) (as := [.int (Int32.ofNat m), .int (Int32.ofNat e)]) (rest := [.long (Int64.ofNat x)]) (T := F_isIn w (Int32.ofNat m) (Int32.ofNat e)) rfl rfl (ux_isIn w (Int32.ofNat m) (Int32.ofNat e)) ?_
    have eI : m_cmp .eq (F_isIn w (Int32.ofNat m) (Int32.ofNat e)) 0 = !(bitB (Int32.ofNat m) e) := by
      rw [eq_ne, isIn_bit]
      rfl
    cases q : bitB (Int32.ofNat m) e with
    | true =>
      rw [q, lT] at eI
      rw [q, lT, kF] at nx
      refine UP.ifF rfl eI ?_
      refine UP.stp 5 (i1 := 32) (L1 := [some (.ref 123), some (.int (Int32.ofNat C)), some (.int mi), some (.int wh), some (.long S), u5, some (.int (Int32.ofNat m)), some (.long (Int64.ofNat x)), u8, some (.int (Int32.ofNat e))]) (st1 := [.long (16 - Int32.ofNat C).toInt64, .long (Int64.ofNat x)]) (s1 := w) rfl ?_
      rw [(c64 hC).2]
      refine UP.stp 4 (i1 := 16) (L1 := [some (.ref 123), some (.int (Int32.ofNat C)), some (.int mi), some (.int wh), some (.long S), u5, some (.int (Int32.ofNat m)), some (.long (Int64.ofNat x * Int64.ofNat (16 - C))), u8, some (.int (Int32.ofNat e + 1))]) (st1 := []) (s1 := w) rfl ?_
      rw [ofn_s]
      exact nx
    | false =>
      rw [q, lF] at eI
      rw [q, lF, kT] at nx
      refine UP.ifT rfl eI ?_
      refine UP.stp 2 (i1 := 32) (L1 := [some (.ref 123), some (.int (Int32.ofNat C)), some (.int mi), some (.int wh), some (.long S), u5, some (.int (Int32.ofNat m)), some (.long (Int64.ofNat x)), u8, some (.int (Int32.ofNat e))]) (st1 := [.long (Int32.ofNat C).toInt64, .long (Int64.ofNat x)]) (s1 := w) rfl ?_
      rw [(c64 hC).1]
      refine UP.stp 4 (i1 := 16) (L1 := [some (.ref 123), some (.int (Int32.ofNat C)), some (.int mi), some (.int wh), some (.long S), u5, some (.int (Int32.ofNat m)), some (.long (Int64.ofNat x * Int64.ofNat C)), u8, some (.int (Int32.ofNat e + 1))]) (st1 := []) (s1 := w) rfl ?_
      rw [ofn_s]
      exact nx
theorem chM {c : SG} {N C : Nat} (g : KG c) (hN : N ≤ 8) (eN : c 2 3 = Int32.ofNat N) (hC : C ≤ 16) (mi wh : Int32) : ∀ (n m : Nat) (w : SG) (u5 u7 u8 u9 : Option Value), m + n = 2 ^ N → MtE c w → UP m_X7_chanceOf 6 [some (.ref 123), some (.int (Int32.ofNat C)), some (.int mi), some (.int wh), some (.long (Int64.ofNat (smN (fun m => gN c N C mi (2 ^ N - 1 - m)) m))), u5, some (.int (Int32.ofNat m)), u7, u8, u9] [] w (MPl c (anC wh (hv 32 (smN (gN c N C mi) (2 ^ N)) (2 ^ (4 * N))))) := by
  have hM := p256 hN
  have h8 := row8 g.1.1 g.2.1.1
  have cN : (c 2 3).toNatClampNeg = N := by rw [eN]; exact ofn_c (by omega)
  have sb : smN (gN c N C mi) (2 ^ N) < 4611686018427387904 := by
    have := smN_b (gN_b c hN hC mi) (2 ^ N)
    have : 2 ^ N * 4294967296 ≤ 256 * 4294967296 := Nat.mul_le_mul_right _ hM
    omega
  intro n
  induction n with
  | zero =>
    intro m w u5 u7 u8 u9 hm ht
    have e : m = 2 ^ N := by omega
    subst e
    rw [smN_rev]
    refine UP.stp 5 (i1 := 11) (L1 := [some (.ref 123), some (.int (Int32.ofNat C)), some (.int mi), some (.int wh), some (.long (Int64.ofNat (smN (gN c N C mi) (2 ^ N)))), u5, some (.int (Int32.ofNat (2 ^ N))), u7, u8, u9]) (st1 := [.int (1 <<< (w 123 11 &&& 31)), .int (Int32.ofNat (2 ^ N))]) (s1 := w) rfl ?_
    rw [n11 g.2.2.1 eN ht, (pw2 N (by omega)).1]
    refine UP.icT rfl geT' ?_
    refine UP.stp 8 (i1 := 67) (L1 := [some (.ref 123), some (.int (Int32.ofNat C)), some (.int mi), some (.int wh), some (.long (Int64.ofNat (smN (gN c N C mi) (2 ^ N)))), u5, some (.int (Int32.ofNat (2 ^ N))), u7, u8, u9]) (st1 := [.int wh, .long (1 <<< ((4 * w 123 11).toInt64 &&& 63)), .long (Int64.ofNat (smN (gN c N C mi) (2 ^ N)))]) (s1 := w) rfl ?_
    rw [n11 g.2.2.1 eN ht, (pw2 N (by omega)).2]
    refine UP.cJ (M1 := m_X7_lowest) (as := [.long (Int64.ofNat (smN (gN c N C mi) (2 ^ N))), .long (Int64.ofNat (2 ^ (4 * N))), .int wh]) (rest := []) (T := anC wh (hv 32 (smN (gN c N C mi) (2 ^ N)) (2 ^ (4 * N)))) rfl rfl (ux_low w sb (by omega) wh) ?_
    exact UP.ret (r := some (.long (anC wh (hv 32 (smN (gN c N C mi) (2 ^ N)) (2 ^ (4 * N)))))) rfl ⟨rfl, ht⟩
  | succ n ih =>
    intro m w u5 u7 u8 u9 hm ht
    have m2 : m < 2 ^ N := by omega
    refine UP.stp 5 (i1 := 11) (L1 := [some (.ref 123), some (.int (Int32.ofNat C)), some (.int mi), some (.int wh), some (.long (Int64.ofNat (smN (fun m => gN c N C mi (2 ^ N - 1 - m)) m))), u5, some (.int (Int32.ofNat m)), u7, u8, u9]) (st1 := [.int (1 <<< (w 123 11 &&& 31)), .int (Int32.ofNat m)]) (s1 := w) rfl ?_
    rw [n11 g.2.2.1 eN ht, (pw2 N (by omega)).1]
    refine UP.icF rfl (geF' (by omega) (by omega)) ?_
    refine UP.stp 4 (i1 := 16) (L1 := [some (.ref 123), some (.int (Int32.ofNat C)), some (.int mi), some (.int wh), some (.long (Int64.ofNat (smN (fun m => gN c N C mi (2 ^ N - 1 - m)) m))), u5, some (.int (Int32.ofNat m)), some (.long (Int64.ofNat 1)), u8, some (.int (Int32.ofNat 0))]) (st1 := []) (s1 := w) rfl ?_
    refine inL g hN eN hC mi wh m _ _ w ht u5 u8 (fun v8 v9 => ?_) N 0 (by omega)
    have cb : ∀ e, e < N → bitB (Int32.ofNat (2 ^ N - 1 - m)) e = !(bitB (Int32.ofNat m) e) := fun e he => by
      rw [cmpB N (by omega) m m2 e he, Bool.not_not]
    have ew : wN N C (fun e => !(bitB (Int32.ofNat m) e)) = wN N C (bitB (Int32.ofNat (2 ^ N - 1 - m))) := wN_c (fun e he => (cb e he).symm)
    rw [ew]
    have wb := wN_b hC (bitB (Int32.ofNat (2 ^ N - 1 - m))) N
    have p := p16 hN
    have es := smN_s (fun m => gN c N C mi (2 ^ N - 1 - m)) m
    (try dsimp only at es)
    have eg : gN c N C mi (2 ^ N - 1 - m) = if wN N C (bitB (Int32.ofNat (2 ^ N - 1 - m))) = 0 then 0 else (bif agB c mi (Int32.ofNat (2 ^ N - 1 - m)) then wN N C (bitB (Int32.ofNat (2 ^ N - 1 - m))) else 0) := rfl
    rw [eg] at es
    generalize wN N C (bitB (Int32.ofNat (2 ^ N - 1 - m))) = x at *
    refine UP.stp 3 (i1 := 39) (L1 := [some (.ref 123), some (.int (Int32.ofNat C)), some (.int mi), some (.int wh), some (.long (Int64.ofNat (smN (fun m => gN c N C mi (2 ^ N - 1 - m)) m))), u5, some (.int (Int32.ofNat m)), some (.long (Int64.ofNat x)), v8, v9]) (st1 := [.int (lg_cmp (Int64.ofNat x) 0)]) (s1 := w) rfl ?_
    have step : ∀ (y : Nat) (w2 : SG) (x7 x8 x9 : Option Value), smN (fun m => gN c N C mi (2 ^ N - 1 - m)) (m + 1) = y → MtE c w2 → UP m_X7_chanceOf 57 [some (.ref 123), some (.int (Int32.ofNat C)), some (.int mi), some (.int wh), some (.long (Int64.ofNat y)), u5, some (.int (Int32.ofNat m)), x7, x8, x9] [] w2 (MPl c (anC wh (hv 32 (smN (gN c N C mi) (2 ^ N)) (2 ^ (4 * N))))) := by
      intro y w2 x7 x8 x9 hy a2
      refine UP.stp 2 (i1 := 6) (L1 := [some (.ref 123), some (.int (Int32.ofNat C)), some (.int mi), some (.int wh), some (.long (Int64.ofNat y)), u5, some (.int (Int32.ofNat m + 1)), x7, x8, x9]) (st1 := []) (s1 := w2) rfl ?_
      rw [ofn_s, ← hy]
      exact ih (m + 1) w2 _ _ _ _ (by omega) a2
    by_cases q : x = 0
    · refine UP.ifT rfl (by rw [leW (by omega), decide_eq_true q]) ?_
      rw [if_pos q, Nat.add_zero] at es
      exact step _ w _ _ _ es ht
    · refine UP.ifF rfl (by rw [leW (by omega), decide_eq_false q]) ?_
      rw [if_neg q] at es
      refine UP.stp 4 (i1 := 44) (L1 := [some (.ref 123), some (.int (Int32.ofNat C)), some (.int mi), some (.int wh), some (.long (Int64.ofNat (smN (fun m => gN c N C mi (2 ^ N - 1 - m)) m))), u5, some (.int (Int32.ofNat m)), some (.long (Int64.ofNat x)), v8, v9]) (st1 := [.ref 123]) (s1 := uset w 123 17 (Int32.ofNat m)) rfl ?_
      obtain ⟨y0, o⟩ := ht
      have bk : bitK (c 2 3).toNatClampNeg (Int32.ofNat m) (Int32.ofNat (2 ^ N - 1 - m)) := by
        rw [cN]
        exact fun e he => cmpB N (by omega) m m2 e he
      obtain ⟨r1, r2⟩ := runT2 (mask := Int32.ofNat (2 ^ N - 1 - m)) g.2.2.1 h8 (o.wset (Int32.ofNat m)) bk (ovC g.1.1 g.2.1 _)
      refine UP.cV (M1 := m_X7_runs) (as := [.ref 123]) (rest := []) (T := F_runs (uset w 123 17 (Int32.ofNat m))) rfl rfl (ux_runs (uset w 123 17 (Int32.ofNat m))) (fun z e => ?_)
      rw [e] at r1 r2
      have e23 : z 123 23 = gfi (inC_a c (Int32.ofNat (2 ^ N - 1 - m))) 24 := r1.2.2.2.2.1
      refine UP.stp 5 (i1 := 50) (L1 := [some (.ref 123), some (.int (Int32.ofNat C)), some (.int mi), some (.int wh), some (.long (Int64.ofNat (smN (fun m => gN c N C mi (2 ^ N - 1 - m)) m))), u5, some (.int (Int32.ofNat m)), some (.long (Int64.ofNat x)), v8, v9]) (st1 := [.int mi, .int 0, .int (z 123 23), .long (Int64.ofNat (smN (fun m => gN c N C mi (2 ^ N - 1 - m)) m))]) (s1 := z) rfl ?_
      rw [e23]
      refine UP.cI (M1 := m_X7_in) (as := [.int (gfi (inC_a c (Int32.ofNat (2 ^ N - 1 - m))) 24), .int 0, .int mi]) (rest := [.long (Int64.ofNat (smN (fun m => gN c N C mi (2 ^ N - 1 - m)) m))]) (T := F_in z (gfi (inC_a c (Int32.ofNat (2 ^ N - 1 - m))) 24) 0 mi) rfl rfl (ux_in z (gfi (inC_a c (Int32.ofNat (2 ^ N - 1 - m))) 24) 0 mi) ?_
      have ei := in_ag z c mi (Int32.ofNat (2 ^ N - 1 - m))
      cases r : agB c mi (Int32.ofNat (2 ^ N - 1 - m)) with
      | false =>
        rw [r, lF] at ei
        rw [r, kF, Nat.add_zero] at es
        refine UP.ifT rfl ei ?_
        refine UP.stp 3 (i1 := 57) (L1 := [some (.ref 123), some (.int (Int32.ofNat C)), some (.int mi), some (.int wh), some (.long (Int64.ofNat (smN (fun m => gN c N C mi (2 ^ N - 1 - m)) m) + 0)), u5, some (.int (Int32.ofNat m)), some (.long (Int64.ofNat x)), v8, v9]) (st1 := []) (s1 := z) rfl ?_
        rw [Int64.add_zero]
        exact step _ z _ _ _ es ⟨_, r2⟩
      | true =>
        rw [r, lT] at ei
        rw [r, kT] at es
        refine UP.ifF rfl ei ?_
        refine UP.stp 4 (i1 := 57) (L1 := [some (.ref 123), some (.int (Int32.ofNat C)), some (.int mi), some (.int wh), some (.long (Int64.ofNat (smN (fun m => gN c N C mi (2 ^ N - 1 - m)) m) + Int64.ofNat x)), u5, some (.int (Int32.ofNat m)), some (.long (Int64.ofNat x)), v8, v9]) (st1 := []) (s1 := z) rfl ?_
        rw [← Int64.ofNat_add]
        exact step _ z _ _ _ es ⟨_, r2⟩
theorem ux_chOf {c : SG} {N C : Nat} (g : KG c) (hN : N ≤ 8) (eN : c 2 3 = Int32.ofNat N) (hC : C ≤ 16) (mi wh : Int32) : UP m_X7_chanceOf 0 (m_ent 10 [.ref 123, .int (Int32.ofNat C), .int mi, .int wh]) [] c (MPl c (anC wh (hv 32 (smN (gN c N C mi) (2 ^ N)) (2 ^ (4 * N))))) := by
  refine UP.stp 1 (i1 := 1) (L1 := [some (.ref 123), some (.int (Int32.ofNat C)), some (.int mi), some (.int wh), none, none, none, none, none, none]) (st1 := [.ref 123]) (s1 := c) rfl ?_
  refine UP.cV (M1 := m_X7_asTold) (as := [.ref 123]) (rest := []) (T := F_asTold c) rfl rfl (ux_asTold c) (fun y e => ?_)
  have hm : MtE c y := ⟨0, by rw [← e]; exact mtTold g.1.1 g.2.1⟩
  refine UP.stp 4 (i1 := 6) (L1 := [some (.ref 123), some (.int (Int32.ofNat C)), some (.int mi), some (.int wh), some (.long (Int64.ofNat 0)), none, some (.int (Int32.ofNat 0)), none, none, none]) (st1 := []) (s1 := y) rfl ?_
  exact chM g hN eN hC mi wh (2 ^ N) 0 y _ _ _ _ (by omega) hm
theorem ux_no (s : SG) : UP m_X7_no 0 (m_ent 1 [.int (-2)]) [] s (Qj s (-9223372036854775806)) := by
  refine UP.stp 4 (i1 := 4) (L1 := [some (.int (-2))]) (st1 := [.long ((-9223372036854775808) - (-2 : Int32).toInt64)]) (s1 := s) rfl ?_
  have e : (-9223372036854775808 : Int64) - (-2 : Int32).toInt64 = -9223372036854775806 := by decide
  rw [e]
  exact UP.ret (r := some (.long (-9223372036854775806))) rfl ⟨rfl, rfl⟩
theorem ux_chanceM {c : SG} {N : Nat} (k : KF c) (hN : N ≤ 8) (eN : c 2 3 = Int32.ofNat N) (a mi wh : Int32) : UP m_X7_chance 0 (m_ent 4 [.ref 123, .int a, .int mi, .int wh]) [] c (fun v s2 => v = some (.long (chA c N a mi wh)) ∧ KF s2) := by
  have bad : UP m_X7_chance 17 [some (.ref 123), some (.int a), some (.int mi), some (.int wh)] [] c (fun v s2 => v = some (.long (-9223372036854775806)) ∧ KF s2) := by
    refine UP.stp 1 (i1 := 18) (L1 := [some (.ref 123), some (.int a), some (.int mi), some (.int wh)]) (st1 := [.int (-2)]) (s1 := c) rfl ?_
    refine UP.cJ (M1 := m_X7_no) (as := [.int (-2)]) (rest := []) (T := -9223372036854775806) rfl rfl (ux_no c) ?_
    exact UP.ret (r := some (.long (-9223372036854775806))) rfl ⟨rfl, k⟩
  unfold chA okC
  refine UP.stp 3 (i1 := 3) (L1 := [some (.ref 123), some (.int a), some (.int mi), some (.int wh)]) (st1 := [.int 16, .int 0, .int a]) (s1 := c) rfl ?_
  refine UP.cI (M1 := m_X7_in) (as := [.int a, .int 0, .int 16]) (rest := []) (T := F_in c a 0 16) rfl rfl (ux_in c a 0 16) ?_
  cases q1 : bl a 17 with
  | false =>
    refine UP.ifT rfl (by rw [in_e c a 16 17 rfl, q1]; rfl) ?_
    exact bad
  | true =>
    refine UP.ifF rfl (by rw [in_e c a 16 17 rfl, q1]; rfl) ?_
    refine UP.stp 1 (i1 := 6) (L1 := [some (.ref 123), some (.int a), some (.int mi), some (.int wh)]) (st1 := [.int mi]) (s1 := c) rfl ?_
    refine UP.cI (M1 := m_X7_isMinute) (as := [.int mi]) (rest := []) (T := F_isMinute c mi) rfl rfl (ux_isMinute c mi) ?_
    cases q2 : bl mi 24 with
    | false =>
      refine UP.ifT rfl (by rw [isM_e, q2]; rfl) ?_
      exact bad
    | true =>
      refine UP.ifF rfl (by rw [isM_e, q2]; rfl) ?_
      refine UP.stp 1 (i1 := 9) (L1 := [some (.ref 123), some (.int a), some (.int mi), some (.int wh)]) (st1 := [.int wh]) (s1 := c) rfl ?_
      refine UP.cI (M1 := m_X7_isTwo) (as := [.int wh]) (rest := []) (T := F_isTwo c wh) rfl rfl (ux_isTwo c wh) ?_
      cases q3 : bl wh 2 with
      | false =>
        refine UP.ifT rfl (by rw [is2_e, q3]; rfl) ?_
        exact bad
      | true =>
        refine UP.ifF rfl (by rw [is2_e, q3]; rfl) ?_
        obtain ⟨ec, lc⟩ := bl_ofn q1
        have lc : a.toNatClampNeg < 17 := lc
        rw [kT, kT, kT]
        generalize a.toNatClampNeg = C at *
        rw [ec]
        refine UP.stp 4 (i1 := 15) (L1 := [some (.ref 123), some (.int (Int32.ofNat C)), some (.int mi), some (.int wh)]) (st1 := [.int wh, .int mi, .int (Int32.ofNat C), .ref 123]) (s1 := c) rfl ?_
        refine UP.call (M1 := m_X7_chanceOf) (as := [.ref 123, .int (Int32.ofNat C), .int mi, .int wh]) (rest := []) rfl rfl (ux_chOf k.1 hN eN (by omega) mi wh) (fun r w p => ?_)
        obtain ⟨rfl, x, m⟩ := p
        generalize anC wh (hv 32 (smN (gN c N C mi) (2 ^ N)) (2 ^ (4 * N))) = T at *
        refine UP.stp 1 (i1 := 19) (L1 := [some (.ref 123), some (.int (Int32.ofNat C)), some (.int mi), some (.int wh)]) (st1 := [.long T]) (s1 := w) rfl ?_
        exact UP.ret (r := some (.long T)) rfl ⟨rfl, k.ag (m.2.2.2.2.2.ag DF rfl)⟩
def TEl (r r2 : Option Value) : Prop := ∃ v, r = some (.long v) ∧ r2 = some (.long v)
theorem pe_chance {h : MH} (hJ : JK h) (a b c : Int32) (p : PairOK J1 TL 66 167 [.int a, .int b, .int c] h) : PairOK JK TEl 66 167 [.int a, .int b, .int c] h := by
  have E := hJ.2.1.2.2.1
  obtain ⟨N, hN, eN⟩ := lenO E.2.1 E.2.2.1
  refine PairOK.up (K := KF) (T' := TEl) (M1 := m_X6_chance) (M2 := m_X7_chance) (QX := CPl (cI h) (chA (cI h) N a b c)) (QY := fun _ s1 v s2 => v = some (.long (chA s1 N a b c)) ∧ KF s2) p hJ.1 rfl rfl (by decide) (by decide) (ux_chanceC hJ.2 hN eN a b c) (fun r s1 q => ux_chanceM q.2.1 hN (n23 eN q.2.2) a b c) (fun r s1 r2 h2 q w _ _ => ?_)
  obtain ⟨q1, q2, q3⟩ := q
  obtain ⟨w1, w3⟩ := w
  have eR : chA s1 N a b c = chA (cI h) N a b c := by
    have e : gN s1 N a.toNatClampNeg b = gN (cI h) N a.toNatClampNeg b := by
      funext m
      unfold gN agB
      rw [inC_ag (q3.sub rfl)]
    unfold chA
    rw [e]
  rw [eR] at w1
  generalize chA (cI h) N a b c = T at *
  exact ⟨⟨T, q1, w1⟩, w3⟩
