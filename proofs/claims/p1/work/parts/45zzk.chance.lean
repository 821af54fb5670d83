/-! chance: the class's side, and the arithmetic of both -/
def W_weightOf : List (Nat × Nat × Option Nat) := []
def B_weightOf_4 (mask : Int32) (c : Int32) (s : SG) (i1 : Nat) (a1 : Int64) : Int64 := let v3 := bif m_cmp .eq (F_hasBit s mask (Int32.ofNat i1)) 0 then (16 - c).toInt64 else c.toInt64; let v4 := a1 * v3; v4
def F_weightOf (s : SG) (mask : Int32) (c : Int32) : Int64 := let z1 := itr (B_weightOf_4 mask c s) 0 ((s 2 3).toNatClampNeg) (1 : Int64); z1
theorem ux_weightOf (s : SG) (mask : Int32) (c : Int32)  : UP m_X6_weightOf 0 (m_ent 6 [.ref 0, .int mask, .int c]) [] s (Qj s (F_weightOf s mask c)) := by
  refine UP.stp 4 (i1 := 4) (L1 := [some (.ref 0), some (.int mask), some (.int c), some (.long 1), none, some (.int 0)]) (st1 := []) (s1 := s) rfl ?_
  refine lp (fun (i1 : Nat) (a1 : Int64) => ∀ (u1_4 : Option Value), UP m_X6_weightOf 4 [some (.ref 0), some (.int mask), some (.int c), some (.long a1), u1_4, some (.int (Int32.ofNat i1))] [] s (Qj s (F_weightOf s mask c))) (fun (_ : Nat) (a1 : Int64) => Fr W_weightOf s s) (B_weightOf_4 mask c s) ((s 2 3).toNatClampNeg) (fun i1 a1 hi1 g1 => g1) (fun i1 a1 hi1 g1 kk => ?_) ((s 2 3).toNatClampNeg) (0) (1 : Int64) (by  omega) (Fr.rf _ _) (fun z1 e1 g1 => ?_) none
  · skip
    intro u1_4
    have hbi1 := cl_lt (s 2 3)
    refine UP.stp 4 (i1 := 8) (L1 := [some (.ref 0), some (.int mask), some (.int c), some (.long a1), u1_4, some (.int (Int32.ofNat i1))]) (st1 := [.int (s 2 3), .int (Int32.ofNat i1)]) (s1 := s) rfl ?_
    refine UP.icF rfl (ge_F hi1) ?_
    refine UP.stp 3 (i1 := 12) (L1 := [some (.ref 0), some (.int mask), some (.int c), some (.long a1), u1_4, some (.int (Int32.ofNat i1))]) (st1 := [.int (Int32.ofNat i1), .int mask, .long a1]) (s1 := s) rfl ?_
    refine UP.cI (M1 := m_X6_hasBit) (as := [.int mask, .int (Int32.ofNat i1)]) (rest := [.long a1]) (T := F_hasBit s mask (Int32.ofNat i1)) rfl rfl (ux_hasBit s mask (Int32.ofNat i1)) ?_
    refine mrg (m_cmp .eq (F_hasBit s mask (Int32.ofNat i1)) 0) ((16 - c).toInt64) c.toInt64 (fun v3 : Int64 => UP m_X6_weightOf 21 [some (.ref 0), some (.int mask), some (.int c), some (.long a1), u1_4, some (.int (Int32.ofNat i1))] [.long v3, .long a1] s (Qj s (F_weightOf s mask c))) (fun cc kk => ?_) (fun cc kk => ?_) (fun v3 e3 => ?_)
    · skip
      refine UP.ifT rfl cc ?_
      refine UP.stp 4 (i1 := 21) (L1 := [some (.ref 0), some (.int mask), some (.int c), some (.long a1), u1_4, some (.int (Int32.ofNat i1))]) (st1 := [.long ((16 - c).toInt64), .long a1]) (s1 := s) rfl ?_
      exact kk
    · skip
      refine UP.ifF rfl cc ?_
      refine UP.stp 3 (i1 := 21) (L1 := [some (.ref 0), some (.int mask), some (.int c), some (.long a1), u1_4, some (.int (Int32.ofNat i1))]) (st1 := [.long c.toInt64, .long a1]) (s1 := s) rfl ?_
      exact kk
    refine UP.stp 1 (i1 := 22) (L1 := [some (.ref 0), some (.int mask), some (.int c), some (.long a1), u1_4, some (.int (Int32.ofNat i1))]) (st1 := [.long (a1 * v3)]) (s1 := s) rfl ?_
    refine nm (G := fun v4 => UP m_X6_weightOf 22 [some (.ref 0), some (.int mask), some (.int c), some (.long a1), u1_4, some (.int (Int32.ofNat i1))] [.long v4] s (Qj s (F_weightOf s mask c))) (a1 * v3) (fun v4 e4 => ?_)
    refine UP.stp 3 (i1 := 4) (L1 := [some (.ref 0), some (.int mask), some (.int c), some (.long v4), u1_4, some (.int ((Int32.ofNat i1) + 1))]) (st1 := []) (s1 := s) rfl ?_
    subst e4 e3
    rw [ofn_s]
    try dsimp only [B_weightOf_4] at kk
    exact kk _
  intro u1_4
  refine UP.stp 4 (i1 := 8) (L1 := [some (.ref 0), some (.int mask), some (.int c), some (.long z1), u1_4, some (.int (Int32.ofNat ((s 2 3).toNatClampNeg)))]) (st1 := [.int (s 2 3), .int (Int32.ofNat ((s 2 3).toNatClampNeg))]) (s1 := s) rfl ?_
  refine UP.icT rfl (ge_T _) ?_
  refine UP.stp 1 (i1 := 26) (L1 := [some (.ref 0), some (.int mask), some (.int c), some (.long z1), u1_4, some (.int (Int32.ofNat ((s 2 3).toNatClampNeg)))]) (st1 := [.long z1]) (s1 := s) rfl ?_
  exact UP.ret (r := some (.long z1)) rfl ⟨by subst e1; first | (dsimp only [F_weightOf]; done) | (dsimp only; done) | rfl, by subst e1; first | (dsimp only [F_weightOf]; done) | (dsimp only; done) | rfl⟩
theorem l_int {n : Nat} (h : n < 4611686018427387904) : (Int64.ofNat n).toInt = (n : Int) := Int64.toInt_ofNat_of_lt (by omega)
theorem l_ne {b : Nat} (h : b < 4611686018427387904) : Int64.ofNat b ≠ -1 := fun e => by
  have e := congrArg Int64.toInt e
  rw [l_int h] at e
  have e2 : (-1 : Int64).toInt = -1 := by decide
  omega
theorem l_ne0 {b : Nat} (h : b < 4611686018427387904) (h0 : 0 < b) : Int64.ofNat b ≠ 0 := fun e => by
  have e := congrArg Int64.toInt e
  rw [l_int h] at e
  have e2 : (0 : Int64).toInt = 0 := by decide
  omega
theorem l_div {a b : Nat} (ha : a < 4611686018427387904) (hb : b < 4611686018427387904) : Int64.ofNat a / Int64.ofNat b = Int64.ofNat (a / b) := by
  apply Int64.toInt_inj.mp
  have l : a / b ≤ a := Nat.div_le_self a b
  rw [Int64.toInt_div_of_ne_right _ _ (l_ne hb), l_int ha, l_int hb, l_int (by omega)]
  rfl
theorem l_rem {a b : Nat} (ha : a < 4611686018427387904) (hb : b < 4611686018427387904) : Int64.ofNat a - Int64.ofNat a / Int64.ofNat b * Int64.ofNat b = Int64.ofNat (a % b) := by
  rw [l_div ha hb, ← Int64.ofNat_mul]
  have e : a = a % b + a / b * b := by
    have := Nat.div_add_mod' a b
    omega
  have e2 : Int64.ofNat a = Int64.ofNat (a % b) + Int64.ofNat (a / b * b) := by
    rw [← Int64.ofNat_add]
    exact congrArg Int64.ofNat e
  rw [e2, Int64.add_sub_cancel]
theorem UP.jd {M : MM} {i : Nat} {L : ML} {st : List Value} {s : SG} {P : Option Value → SG → Prop} {pc len : Nat} {ops : List Int} {x y : Int64} (hrow : (mc M)[i]? = some (pc, .lrem, len, ops)) (hy : y ≠ 0) (k : UP M (i + 1) L (.long (x - x / y * y) :: st) s P) : UP M i L (.long y :: .long x :: st) s P := by
  refine UP.one ?_ k
  unfold ustep
  rw [hrow]
  show (if y = 0 then none else o_nx i [] (.long (x - x / y * y) :: st) []).map (uo L s) = _
  rw [if_neg hy]
  rfl
theorem UP.jv {M : MM} {i : Nat} {L : ML} {st : List Value} {s : SG} {P : Option Value → SG → Prop} {pc len : Nat} {ops : List Int} {x y : Int64} (hrow : (mc M)[i]? = some (pc, .ldiv, len, ops)) (hy : y ≠ 0) (k : UP M (i + 1) L (.long (x / y) :: st) s P) : UP M i L (.long y :: .long x :: st) s P := by
  refine UP.one ?_ k
  unfold ustep
  rw [hrow]
  show (if y = 0 then none else o_nx i [] (.long (x / y) :: st) []).map (uo L s) = _
  rw [if_neg hy]
  rfl
/-! weights -/
def wN (N C : Nat) (b : Nat → Bool) : Nat := itr (fun e x => x * (bif b e then C else 16 - C)) 0 N 1
theorem wN_s (N C : Nat) (b : Nat → Bool) : wN (N + 1) C b = wN N C b * (bif b N then C else 16 - C) := itr_0 _ _ _
theorem wN_b {C : Nat} (hC : C ≤ 16) (b : Nat → Bool) (N : Nat) : wN N C b ≤ 16 ^ N := by
  induction N with
  | zero => exact Nat.le_refl 1
  | succ N ih =>
    rw [wN_s, Nat.pow_succ]
    refine Nat.mul_le_mul ih ?_
    cases b N with
    | true => rw [kT]; exact hC
    | false => rw [kF]; omega
theorem wN_c {C N : Nat} {b d : Nat → Bool} (h : ∀ e, e < N → b e = d e) : wN N C b = wN N C d := by
  induction N with
  | zero => unfold wN; rw [itr_z, itr_z]
  | succ N ih => rw [wN_s, wN_s, ih (fun e he => h e (by omega)), h N (by omega)]
theorem p16 {N : Nat} (h : N ≤ 8) : 16 ^ N ≤ 4294967296 := Nat.le_trans (Nat.pow_le_pow_right (by decide) h) (by decide)
theorem c64 {C : Nat} (hC : C ≤ 16) : (Int32.ofNat C).toInt64 = Int64.ofNat C ∧ (16 - Int32.ofNat C).toInt64 = Int64.ofNat (16 - C) := by
  have e16 : (16 : Int32).toInt = 16 := by decide
  have eC : (Int32.ofNat C).toInt = (C : Int) := ofn_int (by omega)
  refine ⟨?_, ?_⟩
  · apply Int64.toInt_inj.mp
    rw [Int32.toInt_toInt64, eC, l_int (by omega)]
  · apply Int64.toInt_inj.mp
    rw [Int32.toInt_toInt64, i32_sub (by omega) (by omega), eC, e16, l_int (by omega)]
    omega
def bitB (m : Int32) (e : Nat) : Bool := m_cmp .ne ((m >>> ((Int32.ofNat e) &&& 31)) &&& 1) 0
theorem woC {w : SG} {N C : Nat} (hN : N ≤ 8) (eN : w 2 3 = Int32.ofNat N) (hC : C ≤ 16) (m : Int32) : F_weightOf w m (Int32.ofNat C) = Int64.ofNat (wN N C (bitB m)) := by
  have cN : (w 2 3).toNatClampNeg = N := by rw [eN]; exact ofn_c (by omega)
  have eF : F_weightOf w m (Int32.ofNat C) = itr (B_weightOf_4 m (Int32.ofNat C) w) 0 ((w 2 3).toNatClampNeg) (1 : Int64) := rfl
  rw [eF, cN]
  clear eF cN eN
  induction N with
  | zero => unfold wN; rw [itr_z, itr_z]; rfl
  | succ N ih =>
    rw [itr_0, ih (by omega), wN_s, Int64.ofNat_mul]
    have eB : B_weightOf_4 m (Int32.ofNat C) w N (Int64.ofNat (wN N C (bitB m))) = Int64.ofNat (wN N C (bitB m)) * (bif m_cmp .eq (F_hasBit w m (Int32.ofNat N)) 0 then (16 - Int32.ofNat C).toInt64 else (Int32.ofNat C).toInt64) := rfl
    have eH : m_cmp .eq (F_hasBit w m (Int32.ofNat N)) 0 = !(bitB m N) := by
      have e : F_hasBit w m (Int32.ofNat N) = F_isIn w m (Int32.ofNat N) := rfl
      rw [e, eq_ne, isIn_bit]
      rfl
    rw [eB, eH, (c64 hC).1, (c64 hC).2]
    cases bitB m N with
    | true => rw [lT, kF, kT]
    | false => rw [lF, kT, kF]
def agB (s : SG) (mi mask : Int32) : Bool := bif m_cmp .eq (gfi (inC_a s mask) 24) (-1) then false else !(m_cmp .gt (gfi (inC_a s mask) 24) mi)
def gN (s : SG) (N C : Nat) (mi : Int32) (m : Nat) : Nat := if wN N C (bitB (Int32.ofNat m)) = 0 then 0 else (bif agB s mi (Int32.ofNat m) then wN N C (bitB (Int32.ofNat m)) else 0)
def smN (g : Nat → Nat) (k : Nat) : Nat := itr (fun m x => x + g m) 0 k 0
theorem smN_s (g : Nat → Nat) (k : Nat) : smN g (k + 1) = smN g k + g k := itr_0 _ _ _
theorem smN_b {g : Nat → Nat} {B : Nat} (h : ∀ m, g m ≤ B) (k : Nat) : smN g k ≤ k * B := by
  induction k with
  | zero => unfold smN; rw [itr_z]; omega
  | succ k ih =>
    rw [smN_s, Nat.succ_mul]
    have := h k
    omega
theorem gN_b (s : SG) {N C : Nat} (hN : N ≤ 8) (hC : C ≤ 16) (mi : Int32) (m : Nat) : gN s N C mi m ≤ 4294967296 := by
  have b := wN_b hC (bitB (Int32.ofNat m)) N
  have p := p16 hN
  unfold gN
  by_cases w : wN N C (bitB (Int32.ofNat m)) = 0
  · rw [if_pos w]; omega
  · rw [if_neg w]
    cases agB s mi (Int32.ofNat m) with
    | true => rw [kT]; omega
    | false => rw [kF]; omega
theorem iabN {s w : SG} (k : KF w) (a : Ag DG s w) {mi mask : Int32} (hb : bl mask 256 = true) {z : Int32 × SG} (e : F_isAgroundBy w mi mask = z) : KF z.2 ∧ Ag DG s z.2 ∧ m_cmp .eq z.1 0 = !(agB s mi mask) := by
  obtain ⟨f1, f2, f3⟩ := faw k mask
  have eF : F_isAgroundBy w mi mask = (bif m_cmp .eq (F_firstAgroundWith w mask).1 (-1) then (0 : Int32) else (bif m_cmp .gt (F_firstAgroundWith w mask).1 mi then (0 : Int32) else (1 : Int32)), (F_firstAgroundWith w mask).2) := rfl
  rw [eF, f3 hb, inC_ag (a.sub rfl)] at e
  generalize F_firstAgroundWith w mask = y at *
  subst e
  refine ⟨f1, a.tr f2, ?_⟩
  unfold agB
  rw [mkF]
  cases m_cmp .eq (gfi (inC_a s mask) 24) (-1) with
  | true => rfl
  | false =>
    cases m_cmp .gt (gfi (inC_a s mask) 24) mi <;> rfl
theorem leW {w : Nat} (h : w < 4611686018427387904) : m_cmp .le (lg_cmp (Int64.ofNat w) 0) 0 = decide (w = 0) := by
  have e0 : (0 : Int64).toInt = 0 := by decide
  by_cases q : w = 0
  · rw [decide_eq_true q]
    exact lgc_le.mpr (by rw [l_int h, e0]; omega)
  · rw [decide_eq_false q]
    cases c : m_cmp .le (lg_cmp (Int64.ofNat w) 0) 0 with
    | false => rfl
    | true =>
      have := lgc_le.mp c
      rw [l_int h, e0] at this
      omega
/-! halves -/
def hv : Nat → Nat → Nat → Nat × Nat
  | 0, x, y => (x, y)
  | n + 1, x, y => if y ≤ 1 then (x, y) else if x % 2 = 0 then hv n (x / 2) (y / 2) else (x, y)
theorem hv_s (n x y : Nat) : hv (n + 1) x y = if y ≤ 1 then (x, y) else if x % 2 = 0 then hv n (x / 2) (y / 2) else (x, y) := rfl
theorem hv_g : ∀ (n m x : Nat), m ≤ n → hv n x (2 ^ m) = (x / Nat.gcd x (2 ^ m), 2 ^ m / Nat.gcd x (2 ^ m)) := by
  intro n
  induction n with
  | zero =>
    intro m x h
    have e : m = 0 := by omega
    subst e
    show (x, 1) = (x / Nat.gcd x 1, 1 / Nat.gcd x 1)
    rw [Nat.gcd_one_right, Nat.div_one]
  | succ n ih =>
    intro m x h
    rw [hv_s]
    cases m with
    | zero =>
      rw [if_pos (Nat.le_refl _)]
      show (x, 1) = (x / Nat.gcd x 1, 1 / Nat.gcd x 1)
      rw [Nat.gcd_one_right, Nat.div_one]
    | succ m =>
      have p : 1 ≤ 2 ^ m := Nat.one_le_two_pow
      have e2 : 2 ^ (m + 1) = 2 * 2 ^ m := by rw [Nat.pow_succ, Nat.mul_comm]
      rw [if_neg (by rw [e2]; omega)]
      by_cases w : x % 2 = 0
      · rw [if_pos w]
        have ex : x = 2 * (x / 2) := by omega
        have ey : 2 ^ (m + 1) / 2 = 2 ^ m := by rw [e2]; omega
        rw [ey, ih m (x / 2) (by omega)]
        generalize x / 2 = k at *
        rw [ex, e2, Nat.gcd_mul_left, Nat.mul_div_mul_left _ _ (by decide), Nat.mul_div_mul_left _ _ (by decide)]
      · rw [if_neg w]
        have c2 : Nat.Coprime x 2 := by
          show Nat.gcd x 2 = 1
          rw [Nat.gcd_comm, Nat.gcd_rec, show x % 2 = 1 by omega]
          decide
        have c : Nat.gcd x (2 ^ (m + 1)) = 1 := Nat.Coprime.pow_right (m + 1) c2
        rw [c, Nat.div_one, Nat.div_one]
/-! the class's chance -/
def CPl (s : SG) (T : Int64) (v : Option Value) (s1 : SG) : Prop := v = some (.long T) ∧ KF s1 ∧ Ag DG s s1
theorem pw2 : ∀ N, N < 9 → (1 : Int32) <<< ((Int32.ofNat N) &&& 31) = Int32.ofNat (2 ^ N) ∧ (1 : Int64) <<< ((4 * Int32.ofNat N).toInt64 &&& 63) = Int64.ofNat (2 ^ (4 * N)) := by decide
theorem p256 {N : Nat} (h : N ≤ 8) : 2 ^ N ≤ 256 := Nat.le_trans (Nat.pow_le_pow_right (by decide) h) (by decide)
theorem p32 {N : Nat} (h : N ≤ 8) : 2 ^ (4 * N) ≤ 4294967296 := Nat.le_trans (Nat.pow_le_pow_right (by decide) (show 4 * N ≤ 32 by omega)) (by decide)
def anC (wh : Int32) (p : Nat × Nat) : Int64 := bif m_cmp .ne wh 0 then Int64.ofNat p.2 else Int64.ofNat p.1
theorem hvC {s : SG} (c mi wh : Int32) : ∀ (n i x y : Nat) (w : SG) (u5 u7 : Option Value), i + n = 32 → x < 4611686018427387904 → y < 4611686018427387904 → KF w → Ag DG s w → UP m_X6_chance 55 [some (.ref 0), some (.int c), some (.int mi), some (.int wh), some (.long (Int64.ofNat x)), u5, some (.long (Int64.ofNat y)), u7, some (.int (Int32.ofNat i))] [] w (CPl s (anC wh (hv n x y))) := by
  have fin : ∀ (i x y : Nat) (w : SG) (u5 u7 : Option Value), KF w → Ag DG s w → UP m_X6_chance 78 [some (.ref 0), some (.int c), some (.int mi), some (.int wh), some (.long (Int64.ofNat x)), u5, some (.long (Int64.ofNat y)), u7, some (.int (Int32.ofNat i))] [] w (CPl s (anC wh (x, y))) := by
    intro i x y w u5 u7 hk hw
    refine UP.stp 1 (i1 := 79) (L1 := [some (.ref 0), some (.int c), some (.int mi), some (.int wh), some (.long (Int64.ofNat x)), u5, some (.long (Int64.ofNat y)), u7, some (.int (Int32.ofNat i))]) (st1 := [.int wh]) (s1 := w) rfl ?_
    unfold anC
    cases q : m_cmp .ne wh 0 with
    | true =>
      refine UP.ifT rfl q ?_
      refine UP.stp 1 (i1 := 83) (L1 := [some (.ref 0), some (.int c), some (.int mi), some (.int wh), some (.long (Int64.ofNat x)), u5, some (.long (Int64.ofNat y)), u7, some (.int (Int32.ofNat i))]) (st1 := [.long (Int64.ofNat y)]) (s1 := w) rfl ?_
      exact UP.ret (r := some (.long (Int64.ofNat y))) rfl ⟨rfl, hk, hw⟩
    | false =>
      refine UP.ifF rfl q ?_
      refine UP.stp 2 (i1 := 83) (L1 := [some (.ref 0), some (.int c), some (.int mi), some (.int wh), some (.long (Int64.ofNat x)), u5, some (.long (Int64.ofNat y)), u7, some (.int (Int32.ofNat i))]) (st1 := [.long (Int64.ofNat x)]) (s1 := w) rfl ?_
      exact UP.ret (r := some (.long (Int64.ofNat x))) rfl ⟨rfl, hk, hw⟩
  intro n
  induction n with
  | zero =>
    intro i x y w u5 u7 hi hx hy hk hw
    have e : i = 32 := by omega
    subst e
    refine UP.stp 2 (i1 := 57) (L1 := [some (.ref 0), some (.int c), some (.int mi), some (.int wh), some (.long (Int64.ofNat x)), u5, some (.long (Int64.ofNat y)), u7, some (.int (Int32.ofNat 32))]) (st1 := [.int 32, .int (Int32.ofNat 32)]) (s1 := w) rfl ?_
    refine UP.icT rfl rfl ?_
    exact fin 32 x y w u5 u7 hk hw
  | succ n ih =>
    intro i x y w u5 u7 hi hx hy hk hw
    rw [hv_s]
    refine UP.stp 2 (i1 := 57) (L1 := [some (.ref 0), some (.int c), some (.int mi), some (.int wh), some (.long (Int64.ofNat x)), u5, some (.long (Int64.ofNat y)), u7, some (.int (Int32.ofNat i))]) (st1 := [.int 32, .int (Int32.ofNat i)]) (s1 := w) rfl ?_
    refine UP.icF rfl (ge_F (show i < (32 : Int32).toNatClampNeg from by have : (32 : Int32).toNatClampNeg = 32 := rfl; omega)) ?_
    refine UP.stp 3 (i1 := 61) (L1 := [some (.ref 0), some (.int c), some (.int mi), some (.int wh), some (.long (Int64.ofNat x)), u5, some (.long (Int64.ofNat y)), u7, some (.int (Int32.ofNat i))]) (st1 := [.int (lg_cmp (Int64.ofNat y) 1)]) (s1 := w) rfl ?_
    have e1 : (1 : Int64).toInt = 1 := by decide
    by_cases q : y ≤ 1
    · rw [if_pos q]
      refine UP.ifT rfl (lgc_le.mpr (by rw [l_int hy, e1]; omega)) ?_
      exact fin i x y w u5 u7 hk hw
    · rw [if_neg q]
      have qf : m_cmp .le (lg_cmp (Int64.ofNat y) 1) 0 = false := by
        cases d : m_cmp .le (lg_cmp (Int64.ofNat y) 1) 0 with
        | false => rfl
        | true =>
          have := lgc_le.mp d
          rw [l_int hy, e1] at this
          omega
      refine UP.ifF rfl qf ?_
      refine UP.stp 2 (i1 := 64) (L1 := [some (.ref 0), some (.int c), some (.int mi), some (.int wh), some (.long (Int64.ofNat x)), u5, some (.long (Int64.ofNat y)), u7, some (.int (Int32.ofNat i))]) (st1 := [.long 2, .long (Int64.ofNat x)]) (s1 := w) rfl ?_
      refine UP.jd rfl (by decide) ?_
      have er : Int64.ofNat x - Int64.ofNat x / 2 * 2 = Int64.ofNat (x % 2) := l_rem (b := 2) hx (by decide)
      rw [er]
      refine UP.stp 2 (i1 := 67) (L1 := [some (.ref 0), some (.int c), some (.int mi), some (.int wh), some (.long (Int64.ofNat x)), u5, some (.long (Int64.ofNat y)), u7, some (.int (Int32.ofNat i))]) (st1 := [.int (lg_cmp (Int64.ofNat (x % 2)) 0)]) (s1 := w) rfl ?_
      by_cases r : x % 2 = 0
      · rw [if_pos r, r]
        refine UP.ifF rfl rfl ?_
        refine UP.stp 2 (i1 := 70) (L1 := [some (.ref 0), some (.int c), some (.int mi), some (.int wh), some (.long (Int64.ofNat x)), u5, some (.long (Int64.ofNat y)), u7, some (.int (Int32.ofNat i))]) (st1 := [.long 2, .long (Int64.ofNat x)]) (s1 := w) rfl ?_
        refine UP.jv rfl (by decide) ?_
        have ed : ∀ z : Nat, z < 4611686018427387904 → Int64.ofNat z / 2 = Int64.ofNat (z / 2) := fun z hz => l_div (b := 2) hz (by decide)
        rw [ed x hx]
        refine UP.stp 3 (i1 := 74) (L1 := [some (.ref 0), some (.int c), some (.int mi), some (.int wh), some (.long (Int64.ofNat (x / 2))), u5, some (.long (Int64.ofNat y)), u7, some (.int (Int32.ofNat i))]) (st1 := [.long 2, .long (Int64.ofNat y)]) (s1 := w) rfl ?_
        refine UP.jv rfl (by decide) ?_
        rw [ed y hy]
        refine UP.stp 3 (i1 := 55) (L1 := [some (.ref 0), some (.int c), some (.int mi), some (.int wh), some (.long (Int64.ofNat (x / 2))), u5, some (.long (Int64.ofNat (y / 2))), u7, some (.int (Int32.ofNat i + 1))]) (st1 := []) (s1 := w) rfl ?_
        rw [ofn_s]
        exact ih (i + 1) (x / 2) (y / 2) w u5 u7 (by omega) (by omega) (by omega) hk hw
      · rw [if_neg r]
        have e : x % 2 = 1 := by omega
        rw [e]
        refine UP.ifT rfl rfl ?_
        exact fin i x y w u5 u7 hk hw
theorem chL {s : SG} {N C : Nat} (hN : N ≤ 8) (eN : s 2 3 = Int32.ofNat N) (hC : C ≤ 16) (mi wh : Int32) : ∀ (n m : Nat) (w : SG) (u5 u7 u8 : Option Value), m + n = 2 ^ N → KF w → Ag DG s w → UP m_X6_chance 18 [some (.ref 0), some (.int (Int32.ofNat C)), some (.int mi), some (.int wh), some (.long (Int64.ofNat (smN (gN s N C mi) m))), u5, some (.int (Int32.ofNat m)), u7, u8] [] w (CPl s (anC wh (hv 32 (smN (gN s N C mi) (2 ^ N)) (2 ^ (4 * N))))) := by
  have hM := p256 hN
  have gb := gN_b s hN hC mi
  have sb : ∀ k, k ≤ 256 → smN (gN s N C mi) k < 4611686018427387904 := fun k hk => by
    have := smN_b gb k
    have : k * 4294967296 ≤ 256 * 4294967296 := Nat.mul_le_mul_right _ hk
    omega
  intro n
  induction n with
  | zero =>
    intro m w u5 u7 u8 hm hk hw
    have e : m = 2 ^ N := by omega
    subst e
    refine UP.stp 6 (i1 := 24) (L1 := [some (.ref 0), some (.int (Int32.ofNat C)), some (.int mi), some (.int wh), some (.long (Int64.ofNat (smN (gN s N C mi) (2 ^ N)))), u5, some (.int (Int32.ofNat (2 ^ N))), u7, u8]) (st1 := [.int (1 <<< (w 2 3 &&& 31)), .int (Int32.ofNat (2 ^ N))]) (s1 := w) rfl ?_
    rw [n23 eN hw, (pw2 N (by omega)).1]
    refine UP.icT rfl geT' ?_
    refine UP.stp 10 (i1 := 55) (L1 := [some (.ref 0), some (.int (Int32.ofNat C)), some (.int mi), some (.int wh), some (.long (Int64.ofNat (smN (gN s N C mi) (2 ^ N)))), u5, some (.long (1 <<< ((4 * w 2 3).toInt64 &&& 63))), u7, some (.int (Int32.ofNat 0))]) (st1 := []) (s1 := w) rfl ?_
    rw [n23 eN hw, (pw2 N (by omega)).2]
    have p := p32 hN
    exact hvC _ mi wh 32 0 _ _ w _ _ rfl (sb _ hM) (by omega) hk hw
  | succ n ih =>
    intro m w u5 u7 u8 hm hk hw
    refine UP.stp 6 (i1 := 24) (L1 := [some (.ref 0), some (.int (Int32.ofNat C)), some (.int mi), some (.int wh), some (.long (Int64.ofNat (smN (gN s N C mi) m))), u5, some (.int (Int32.ofNat m)), u7, u8]) (st1 := [.int (1 <<< (w 2 3 &&& 31)), .int (Int32.ofNat m)]) (s1 := w) rfl ?_
    rw [n23 eN hw, (pw2 N (by omega)).1]
    refine UP.icF rfl (geF' (by omega) (by omega)) ?_
    refine UP.stp 3 (i1 := 28) (L1 := [some (.ref 0), some (.int (Int32.ofNat C)), some (.int mi), some (.int wh), some (.long (Int64.ofNat (smN (gN s N C mi) m))), u5, some (.int (Int32.ofNat m)), u7, u8]) (st1 := [.int (Int32.ofNat C), .int (Int32.ofNat m), .ref 0]) (s1 := w) rfl ?_
    refine UP.cJ (M1 := m_X6_weightOf) (as := [.ref 0, .int (Int32.ofNat m), .int (Int32.ofNat C)]) (rest := []) (T := F_weightOf w (Int32.ofNat m) (Int32.ofNat C)) rfl rfl (ux_weightOf w (Int32.ofNat m) (Int32.ofNat C)) ?_
    rw [woC hN (n23 eN hw) hC]
    have wb := wN_b hC (bitB (Int32.ofNat m)) N
    have p := p16 hN
    have eg : gN s N C mi m = if wN N C (bitB (Int32.ofNat m)) = 0 then 0 else (bif agB s mi (Int32.ofNat m) then wN N C (bitB (Int32.ofNat m)) else 0) := rfl
    have es := smN_s (gN s N C mi) m
    rw [eg] at es
    generalize wN N C (bitB (Int32.ofNat m)) = x at *
    refine UP.stp 4 (i1 := 33) (L1 := [some (.ref 0), some (.int (Int32.ofNat C)), some (.int mi), some (.int wh), some (.long (Int64.ofNat (smN (gN s N C mi) m))), u5, some (.int (Int32.ofNat m)), some (.long (Int64.ofNat x)), u8]) (st1 := [.int (lg_cmp (Int64.ofNat x) 0)]) (s1 := w) rfl ?_
    have step : ∀ (y : Nat) (w2 : SG) (v7 v8 : Option Value), smN (gN s N C mi) (m + 1) = y → KF w2 → Ag DG s w2 → UP m_X6_chance 43 [some (.ref 0), some (.int (Int32.ofNat C)), some (.int mi), some (.int wh), some (.long (Int64.ofNat y)), u5, some (.int (Int32.ofNat m)), v7, v8] [] w2 (CPl s (anC wh (hv 32 (smN (gN s N C mi) (2 ^ N)) (2 ^ (4 * N))))) := by
      intro y w2 v7 v8 hy k2 a2
      refine UP.stp 2 (i1 := 18) (L1 := [some (.ref 0), some (.int (Int32.ofNat C)), some (.int mi), some (.int wh), some (.long (Int64.ofNat y)), u5, some (.int (Int32.ofNat m + 1)), v7, v8]) (st1 := []) (s1 := w2) rfl ?_
      rw [ofn_s, ← hy]
      exact ih (m + 1) w2 _ _ _ (by omega) k2 a2
    by_cases q : x = 0
    · refine UP.ifT rfl (by rw [leW (by omega), decide_eq_true q]) ?_
      rw [if_pos q, Nat.add_zero] at es
      exact step _ w _ _ es hk hw
    · refine UP.ifF rfl (by rw [leW (by omega), decide_eq_false q]) ?_
      rw [if_neg q] at es
      refine UP.stp 3 (i1 := 37) (L1 := [some (.ref 0), some (.int (Int32.ofNat C)), some (.int mi), some (.int wh), some (.long (Int64.ofNat (smN (gN s N C mi) m))), u5, some (.int (Int32.ofNat m)), some (.long (Int64.ofNat x)), u8]) (st1 := [.int (Int32.ofNat m), .int mi, .ref 0]) (s1 := w) rfl ?_
      refine UP.cB (M1 := m_X6_isAgroundBy) (as := [.ref 0, .int mi, .int (Int32.ofNat m)]) (rest := []) (T := F_isAgroundBy w mi (Int32.ofNat m)) rfl rfl (ux_isAgroundBy w mi (Int32.ofNat m)) (fun z e => ?_)
      have hb : bl (Int32.ofNat m) 256 = true := bl_iff.mpr (by
        rw [ofn_int (by omega)]
        have e256 : (256 : Int32).toInt = 256 := by decide
        omega)
      obtain ⟨z1, z2, z3⟩ := iabN hk hw (mi := mi) hb e
      cases r : agB s mi (Int32.ofNat m) with
      | false =>
        rw [r, lF] at z3
        rw [r, kF, Nat.add_zero] at es
        refine UP.ifT rfl z3 ?_
        exact step _ z.2 _ _ es z1 z2
      | true =>
        rw [r, lT] at z3
        rw [r, kT] at es
        refine UP.ifF rfl z3 ?_
        refine UP.stp 4 (i1 := 43) (L1 := [some (.ref 0), some (.int (Int32.ofNat C)), some (.int mi), some (.int wh), some (.long (Int64.ofNat (smN (gN s N C mi) m) + Int64.ofNat x)), u5, some (.int (Int32.ofNat m)), some (.long (Int64.ofNat x)), u8]) (st1 := []) (s1 := z.2) rfl ?_
        rw [← Int64.ofNat_add]
        exact step _ z.2 _ _ es z1 z2
def okC (c mi wh : Int32) : Bool := bif bl c 17 then (bif bl mi 24 then bl wh 2 else false) else false
def chA (s : SG) (N : Nat) (c mi wh : Int32) : Int64 := bif okC c mi wh then anC wh (hv 32 (smN (gN s N c.toNatClampNeg mi) (2 ^ N)) (2 ^ (4 * N))) else -9223372036854775806
theorem ux_chanceC {s : SG} {N : Nat} (h : KF s) (hN : N ≤ 8) (eN : s 2 3 = Int32.ofNat N) (c mi wh : Int32) : UP m_X6_chance 0 (m_ent 9 [.ref 0, .int c, .int mi, .int wh]) [] s (CPl s (chA s N c mi wh)) := by
  have bad : UP m_X6_chance 12 [some (.ref 0), some (.int c), some (.int mi), some (.int wh), none, none, none, none, none] [] s (CPl s (-9223372036854775806)) := by
    refine UP.stp 1 (i1 := 13) (L1 := [some (.ref 0), some (.int c), some (.int mi), some (.int wh), none, none, none, none, none]) (st1 := [.long (-9223372036854775806)]) (s1 := s) rfl ?_
    exact UP.ret (r := some (.long (-9223372036854775806))) rfl ⟨rfl, h, Ag.rf _ _⟩
  unfold chA okC
  refine UP.stp 2 (i1 := 2) (L1 := [some (.ref 0), some (.int c), some (.int mi), some (.int wh), none, none, none, none, none]) (st1 := [.int 17, .int c]) (s1 := s) rfl ?_
  refine UP.cI (M1 := m_X6_isBelow) (as := [.int c, .int 17]) (rest := []) (T := F_isBelow s c 17) rfl rfl (ux_isBelow s c 17) ?_
  cases q1 : bl c 17 with
  | false =>
    refine UP.ifT rfl (by rw [bl_e, q1]; rfl) ?_
    exact bad
  | true =>
    refine UP.ifF rfl (by rw [bl_e, q1]; rfl) ?_
    refine UP.stp 2 (i1 := 6) (L1 := [some (.ref 0), some (.int c), some (.int mi), some (.int wh), none, none, none, none, none]) (st1 := [.int 24, .int mi]) (s1 := s) rfl ?_
    refine UP.cI (M1 := m_X6_isBelow) (as := [.int mi, .int 24]) (rest := []) (T := F_isBelow s mi 24) rfl rfl (ux_isBelow s mi 24) ?_
    cases q2 : bl mi 24 with
    | false =>
      refine UP.ifT rfl (by rw [bl_e, q2]; rfl) ?_
      exact bad
    | true =>
      refine UP.ifF rfl (by rw [bl_e, q2]; rfl) ?_
      refine UP.stp 2 (i1 := 10) (L1 := [some (.ref 0), some (.int c), some (.int mi), some (.int wh), none, none, none, none, none]) (st1 := [.int 2, .int wh]) (s1 := s) rfl ?_
      refine UP.cI (M1 := m_X6_isBelow) (as := [.int wh, .int 2]) (rest := []) (T := F_isBelow s wh 2) rfl rfl (ux_isBelow s wh 2) ?_
      cases q3 : bl wh 2 with
      | false =>
        refine UP.ifF rfl (by rw [bl_n, q3]) ?_
        exact bad
      | true =>
        refine UP.ifT rfl (by rw [bl_n, q3]) ?_
        obtain ⟨ec, lc⟩ := bl_ofn q1
        have lc : c.toNatClampNeg < 17 := lc
        rw [kT, kT, kT]
        generalize c.toNatClampNeg = C at *
        rw [ec]
        refine UP.stp 4 (i1 := 18) (L1 := [some (.ref 0), some (.int (Int32.ofNat C)), some (.int mi), some (.int wh), some (.long (Int64.ofNat 0)), none, some (.int (Int32.ofNat 0)), none, none]) (st1 := []) (s1 := s) rfl ?_
        exact chL hN eN (by omega) mi wh (2 ^ N) 0 s _ _ _ (by omega) h (Ag.rf _ _)
