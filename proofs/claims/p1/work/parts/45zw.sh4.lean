/-! write and copy -/
theorem rt0 {s : SG} (t : KT s) (c : KC s) (e : KE s) : MOu (inC_a s 255) (F_runsTold s) ∧ F_runsTold s 123 2 = s 10 0 := by
  have a := asT t c
  have h8 := row8 t c.1
  have q := eqT_told e h8 a
  have eF : F_runsTold s = F_runs (F_asTold s) := rfl
  rw [eF]
  generalize F_asTold s = z at *
  have r := runMO (z := z) (by rw [a.1]; exact h8) (fun k hk => ⟨k, hk, a.2.2.2.1 k hk⟩) q (ovC t c 255)
  exact ⟨r.1, (r.2 123 2 rfl).trans a.1⟩
def wrS (A B : Nat) (what : Int32) (i : Nat) (a : SG) : SG := uset a B (Int32.ofNat i).toNatClampNeg (cvF (a A 2) (bif m_cmp .ne what 0 then a 17 i else a 16 i))
theorem wrC {A B : Nat} (hAB : A ≠ B) (h1 : 16 ≠ B) (h2 : 17 ≠ B) (what : Int32) (y : SG) : ∀ n, n ≤ 24 → (∀ i, i < n → itr (wrS A B what) 0 n y B i = cvF (y A 2) (bif m_cmp .ne what 0 then y 17 i else y 16 i)) ∧ ∀ b j, ¬ (b = B ∧ j < n) → itr (wrS A B what) 0 n y b j = y b j := by
  intro n
  induction n with
  | zero => exact fun _ => ⟨fun i hi => absurd hi (by omega), fun b j _ => rfl⟩
  | succ n ih =>
    intro hn
    obtain ⟨k1, k2⟩ := ih (by omega)
    rw [itr_0]
    generalize itr (wrS A B what) 0 n y = a at *
    have e : wrS A B what n a = uset a B n (cvF (y A 2) (bif m_cmp .ne what 0 then y 17 n else y 16 n)) := by
      unfold wrS
      rw [ofn_c (by omega), k2 A 2 (by omega), k2 17 n (by omega), k2 16 n (by omega)]
    rw [e]
    refine ⟨fun i hi => ?_, fun b j hb => ?_⟩
    · by_cases w : i = n
      · rw [w]; exact uset_eq _ _ _ _
      · rw [uset_nj w]; exact k1 i (by omega)
    · rw [uset_ne (by omega)]; exact k2 b j (by omega)
def wrG (q : Nat) (what : Int32) (i : Nat) (a : SG) : SG := F_keep a (Int32.ofNat q) (Int32.ofNat i) (bif m_cmp .ne what 0 then a 140 i else a 139 i)
theorem wrM {q : Nat} (hq : q < 4) (what : Int32) (y : SG) : ∀ n, n ≤ 24 → (∀ i, i < n → itr (wrG q what) 0 n y 151 (60 * q + i) = cvF (y 149 q) (bif m_cmp .ne what 0 then y 140 i else y 139 i)) ∧ ∀ b j, ¬ (b = 151 ∧ 60 * q ≤ j ∧ j < 60 * q + n) → itr (wrG q what) 0 n y b j = y b j := by
  intro n
  induction n with
  | zero => exact fun _ => ⟨fun i hi => absurd hi (by omega), fun b j _ => rfl⟩
  | succ n ih =>
    intro hn
    obtain ⟨k1, k2⟩ := ih (by omega)
    rw [itr_0]
    generalize itr (wrG q what) 0 n y = a at *
    have e : wrG q what n a = uset a 151 (60 * q + n) (cvF (y 149 q) (bif m_cmp .ne what 0 then y 140 n else y 139 n)) := by
      have e0 : wrG q what n a = uset a 151 (((60 * Int32.ofNat q) + Int32.ofNat n).toNatClampNeg) (cvF (a 149 (Int32.ofNat q).toNatClampNeg) (bif m_cmp .ne what 0 then a 140 n else a 139 n)) := rfl
      rw [e0, idx60 hq (by omega), ofn_c (by omega), k2 149 q (by omega), k2 140 n (by omega), k2 139 n (by omega)]
    rw [e]
    refine ⟨fun i hi => ?_, fun b j hb => ?_⟩
    · by_cases w : i = n
      · rw [w]; exact uset_eq _ _ _ _
      · rw [uset_nj (by omega)]; exact k1 i (by omega)
    · rw [uset_ne (by omega)]; exact k2 b j (by omega)
theorem itx_app {α β : Type} {f : Nat → α → α ⊕ β} {g : Nat → α → α} : ∀ (m lo k : Nat) (a : α), (∀ i x, i < lo + m → f i x = .inl (g i x)) → itx f lo (m + k) a = itx f (lo + m) k (itr g lo m a)
  | 0, lo, k, a, _ => by rw [Nat.zero_add]; rfl
  | m + 1, lo, k, a, h => by
    rw [show m + 1 + k = (m + k) + 1 by omega, itx_l f (h lo a (by omega)), itx_app m (lo + 1) k (g lo a) (fun i x hi => h i x (by omega)), show lo + 1 + m = lo + (m + 1) by omega]
    rfl
theorem wrX (q : Nat) (what : Int32) (S : Nat) (hS : S ≤ 60) (z : SG) : Sum.elim (fun z10 : SG => (Int32.ofNat S, z10)) (fun w10 : Nat × SG => (Int32.ofNat w10.1, w10.2)) (itx (B_write_21 what (Int32.ofNat q)) 0 S z) = (Int32.ofNat (min S 24), itr (wrG q what) 0 (min S 24) z) := by
  have hin : ∀ i x, i < 0 + (min S 24) → B_write_21 what (Int32.ofNat q) i x = .inl (wrG q what i x) := fun i x hi => by
    have e : B_write_21 what (Int32.ofNat q) i x = bif m_cmp .ge (Int32.ofNat i) 24 then .inr x else .inl (wrG q what i x) := rfl
    rw [e, ge_F (show i < (24 : Int32).toNatClampNeg from by have : (24 : Int32).toNatClampNeg = 24 := rfl; omega)]
    rfl
  have A := itx_app (min S 24) 0 (S - min S 24) z hin
  rw [show min S 24 + (S - min S 24) = S by omega] at A
  rw [A]
  by_cases w : S ≤ 24
  · rw [show S - min S 24 = 0 by omega, show min S 24 = S by omega]
    rfl
  · have e2 : min S 24 = 24 := by omega
    rw [e2]
    obtain ⟨k, hk⟩ : ∃ k, S - 24 = k + 1 := ⟨S - 25, by omega⟩
    rw [hk, itx_r (B_write_21 what (Int32.ofNat q)) (b := itr (wrG q what) 0 24 z) rfl]
    rfl
def WSr : LW := [(115, 122, none), (148, 152, none), (0, 0, some 4), (123, 123, some 46), (126, 129, none), (133, 144, none), (147, 147, none), (123, 123, some 2), (123, 123, some 5), (123, 123, some 7), (123, 123, some 17), (123, 123, some 19), (123, 123, some 20), (123, 123, some 21), (123, 123, some 22), (123, 123, some 23), (123, 123, some 24), (123, 123, some 25), (123, 123, some 26), (123, 123, some 27)]
theorem KF.shr {s f : SG} (h : KF s) (fr : Fr WSr s f) (k : KH f) : KF f := ⟨⟨h.1.1.ag (fr.ag DT rfl), h.1.2.1.ag (fr.ag DC rfl), h.1.2.2.1.ag (fr.ag DE rfl), h.1.2.2.2.1.ag (fr.ag DS rfl), k⟩, h.2.ag (fr.ag DX rfl)⟩
theorem min24 {S : Nat} (h : S ≤ 60) : (if (24 : Int32) < Int32.ofNat S then (24 : Int32) else Int32.ofNat S) = Int32.ofNat (min S 24) := by
  have e1 : (24 : Int32).toInt = 24 := by decide
  have e2 : (Int32.ofNat S).toInt = (S : Int) := ofn_int (by omega)
  by_cases w : S ≤ 24
  · rw [if_neg (fun q => by have := Int32.lt_iff_toInt_lt.mp q; omega), show min S 24 = S by omega]
  · rw [if_pos (Int32.lt_iff_toInt_lt.mpr (by omega)), show min S 24 = 24 by omega]
    rfl
theorem q_write {s : SG} (h : KF s) (what s_ : Int32) : QK (F_cwrite s what s_) (fun y => F_write y what s_) := by
  have eC := cs_cwrite s what s_
  have eM : ∀ y, F_write y what s_ = bif bl what 2 then (bif bl s_ 4 then (bif m_cmp .ne (y 148 s_.toNatClampNeg) 0 then (Sum.elim (fun z10 : SG => (Int32.ofNat ((F_runsTold y 150 s_.toNatClampNeg).toNatClampNeg), z10)) (fun w10 : Nat × SG => (Int32.ofNat w10.1, w10.2)) (itx (B_write_21 what s_) 0 ((F_runsTold y 150 s_.toNatClampNeg).toNatClampNeg) (F_runsTold y))) else F_meets y 1) else ((-2), y)) else ((-2), y) := fun y => by
    dsimp only [F_write]
    rw [is2_e, isS_n]
    cases bl what 2 <;> rfl
  cases q1 : bl s_ 4 with
  | false =>
    rw [q1] at eC
    refine same_q h eC ?_
    show F_write s what s_ = _
    rw [eM, q1]
    cases bl what 2 <;> rfl
  | true =>
    rw [q1] at eC
    have eC : _ = G_cwrite s_.toNatClampNeg s what := eC
    obtain ⟨es, hq⟩ := bl_ofn q1
    have hq : s_.toNatClampNeg < 4 := hq
    unfold G_cwrite at eC
    cases q2 : bl what 2 with
    | false =>
      rw [q2] at eC
      exact same_q h eC (by show F_write s what s_ = _; rw [eM, q1, q2]; rfl)
    | true =>
      rw [q2] at eC
      obtain ⟨k1, k2, k3, k4, k5, k6⟩ := h.1.2.2.2.2.1 _ hq
      rw [eq_ne, k1, Bool.not_not] at eC
      cases q3 : m_cmp .ne (s 148 s_.toNatClampNeg) 0 with
      | false =>
        rw [q3] at eC
        have f148 : (F_find s 1).2 148 s_.toNatClampNeg = s 148 s_.toNatClampNeg := rfl
        exact find_q h eC (by show F_write _ what s_ = _; rw [eM, q1, q2, f148, q3]; rfl)
      | true =>
        rw [q3] at eC
        obtain ⟨t1, t2, t3⟩ := tt h
        have eC : F_cwrite s what s_ = ((if 24 < F_toldTrip s (115 + 2 * s_.toNatClampNeg) 3 then 24 else F_toldTrip s (115 + 2 * s_.toNatClampNeg) 3), itr (wrS (115 + 2 * s_.toNatClampNeg) (116 + 2 * s_.toNatClampNeg) what) 0 (if 24 < F_toldTrip s (115 + 2 * s_.toNatClampNeg) 3 then 24 else F_toldTrip s (115 + 2 * s_.toNatClampNeg) 3).toNatClampNeg (F_toldTrip s)) := eC
        have y148 : F_toldTrip s 148 s_.toNatClampNeg = s 148 s_.toNatClampNeg := t3 148 _ rfl
        generalize F_toldTrip s = y at *
        rw [← y148] at q3
        generalize s_.toNatClampNeg = q at *
        obtain ⟨k1, k2, k3, k4, k5, k6⟩ := t1.1.2.2.2.2.1 q hq
        obtain ⟨S, hS, eS⟩ := lenO k4 k5
        have eA : y (115 + 2 * q) 3 = Int32.ofNat S := k3.trans eS
        have cS : (Int32.ofNat S).toNatClampNeg = S := ofn_c (by omega)
        rw [eA, min24 hS, ofn_c (by omega)] at eC
        obtain ⟨w1, w2⟩ := wrC (A := 115 + 2 * q) (B := 116 + 2 * q) (by omega) (by omega) (by omega) what y (min S 24) (by omega)
        unfold QK
        rw [eC]
        dsimp only
        generalize itr (wrS (115 + 2 * q) (116 + 2 * q) what) 0 (min S 24) y = c at *
        have fc : Fr [(115, 122, none)] y c := fun b j hb => by
          have hb : ¬ (115 ≤ b ∧ b ≤ 122) := fun w => by rw [inW_r 115 122 w.1 w.2 rfl] at hb; cases hb
          exact w2 b j (by omega)
        have R := (rt0 (t1.1.1.ag (fc.ag DT rfl)).1 (t1.1.2.1.ag (fc.ag DC rfl)) (t1.1.2.2.1.ag (fc.ag DE rfl))).1
        rw [inC_ag (fc.ag DJ rfl)] at R
        have fz := fr_runsTold c
        have eM2 := eM c
        have c148 : c 148 q = y 148 q := fc 148 q rfl
        have z150 : F_runsTold c 150 q = Int32.ofNat S := (fz 150 q rfl).trans ((fc 150 q rfl).trans eS)
        have z149 : F_runsTold c 149 q = y 149 q := (fz 149 q rfl).trans (fc 149 q rfl)
        rw [q1, q2, c148, q3, z150, cS] at eM2
        have eM2 : F_write c what s_ = Sum.elim (fun z10 : SG => (Int32.ofNat S, z10)) (fun w10 : Nat × SG => (Int32.ofNat w10.1, w10.2)) (itx (B_write_21 what s_) 0 S (F_runsTold c)) := eM2
        rw [es, wrX q what S hS] at eM2
        rw [es, eM2]
        dsimp only
        generalize F_runsTold c = z at *
        obtain ⟨m1, m2⟩ := wrM hq what z (min S 24) (by omega)
        generalize itr (wrG q what) 0 (min S 24) z = f at *
        have ft : Fr WSr y f := ((fc.wk rfl).tr (fz.wk rfl)).tr (s1 := z) (fun b j hb => by
          have hb : ¬ (148 ≤ b ∧ b ≤ 152) := fun w => by rw [inW_r 148 152 w.1 w.2 rfl] at hb; cases hb
          exact m2 b j (by omega))
        have fo : ∀ b j, 115 ≤ b → b ≤ 122 → f b j = c b j := fun b j b1 b2 => by
          rw [m2 b j (by omega)]
          exact (fz.ag [(115, 122, none)] rfl) b j (inW_r 115 122 b1 b2 rfl)
        have g3 : ∀ b j, 148 ≤ b → b ≤ 150 → f b j = y b j := fun b j b1 b2 => by
          rw [m2 b j (by omega), (fz.ag [(148, 150, none)] rfl) b j (inW_r 148 150 b1 b2 rfl)]
          exact (fc.ag [(148, 150, none)] rfl) b j (inW_r 148 150 b1 b2 rfl)
        refine ⟨t1.shr ft ⟨KHs_upd t1.1.2.2.2.2.1 (q := q) (fun b j b1 b2 b3 b4 => ?_) (fun b j b1 b2 b3 => g3 b j b1 b2) (fun j hj => ?_) ⟨?_, ?_, ?_, ?_, ?_, fun i hi => ?_⟩, ?_⟩, rfl⟩
        · rw [fo b j b3 b4]; exact w2 b j (by omega)
        · rw [m2 151 j (by omega), fz 151 j rfl]; exact fc 151 j rfl
        · rw [fo _ 1 (by omega) (by omega), w2 _ 1 (by omega), g3 148 q (by omega) (by omega)]; exact k1
        · rw [fo _ 2 (by omega) (by omega), w2 _ 2 (by omega), g3 149 q (by omega) (by omega)]; exact k2
        · rw [fo _ 3 (by omega) (by omega), w2 _ 3 (by omega), g3 150 q (by omega) (by omega)]; exact k3
        · rw [g3 150 q (by omega) (by omega)]; exact k4
        · rw [g3 150 q (by omega) (by omega)]; exact k5
        · rw [fo _ i (by omega) (by omega)]
          by_cases w : i < min S 24
          · rw [w1 i w, m1 i w, z149, k2]
            have r := R.2.2.2.2.2.2.2 i (by omega)
            have u := t2.1 i (by omega)
            rw [u.1, u.2.1, r.1, r.2.1]
          · rw [w2 _ i (by omega), m2 151 _ (by omega), fz 151 _ rfl, fc 151 _ rfl]
            exact k6 i hi
        · rw [m2 0 4 (by omega), m2 123 46 (by omega), fz 0 4 rfl, fz 123 46 rfl, fc 0 4 rfl, fc 123 46 rfl]
          exact t1.1.2.2.2.2.2
/-! copy -/
theorem hr_iff {s : SG} {q : Nat} (k : KHq s q) {f m : Int32} : G_hr q s f m = true ↔ 0 ≤ f.toInt ∧ 0 ≤ m.toInt ∧ f.toInt + m.toInt ≤ (s 150 q).toInt := by
  obtain ⟨k1, k2, k3, k4, k5, k6⟩ := k
  have k5 : (s 150 q).toInt.toNat ≤ 60 := k5
  have e0 : (0 : Int32).toInt = 0 := by decide
  have f1 := i32_le f
  have m1 := i32_le m
  unfold G_hr
  rw [k3]
  cases a : m_cmp .lt f 0 with
  | true =>
    have := m_lt_iff.mp a
    exact ⟨fun w => (by cases w), fun w => by omega⟩
  | false =>
    have a := m_ff m_lt_iff a
    cases b : m_cmp .lt m 0 with
    | true =>
      have := m_lt_iff.mp b
      exact ⟨fun w => (by cases w), fun w => by omega⟩
    | false =>
      have b := m_ff m_lt_iff b
      have d : (s 150 q - m).toInt = (s 150 q).toInt - m.toInt := i32_sub (by omega) (by omega)
      cases c : m_cmp .gt f (s 150 q - m) with
      | true =>
        have := m_gt_iff.mp c
        exact ⟨fun w => (by cases w), fun w => by omega⟩
      | false =>
        have := m_ff m_gt_iff c
        exact ⟨fun _ => by omega, fun _ => rfl⟩
theorem mvM {q i : Nat} (hq : q < 4) (s_ i_ : Int32) (es : s_ = Int32.ofNat q) (ei : i_ = Int32.ofNat i) (y : SG) : ∀ n, i + n ≤ 60 → (∀ k, k < n → itr (B_copy_71 s_ i_) 0 n y 152 k = y 151 (60 * q + i + k)) ∧ ∀ b j, b ≠ 152 → itr (B_copy_71 s_ i_) 0 n y b j = y b j := by
  intro n
  induction n with
  | zero => exact fun _ => ⟨fun i hi => absurd hi (by omega), fun b j _ => rfl⟩
  | succ n ih =>
    intro hn
    obtain ⟨k1, k2⟩ := ih (by omega)
    rw [itr_0]
    generalize itr (B_copy_71 s_ i_) 0 n y = a at *
    have ix : (((60 * s_) + i_) + (Int32.ofNat n)).toNatClampNeg = 60 * q + i + n := by
      rw [es, ei, show ((60 * Int32.ofNat q) + Int32.ofNat i) + Int32.ofNat n = Int32.ofNat (60 * q + i + n) from ofn_add (ofn_add (ofn_mul rfl rfl) rfl) rfl]
      exact ofn_c (by omega)
    have e : B_copy_71 s_ i_ n a = uset a 152 n (y 151 (60 * q + i + n)) := by
      unfold B_copy_71
      dsimp only
      rw [ix, k2 151 _ (by decide)]
    rw [e]
    refine ⟨fun k hk => ?_, fun b j hb => ?_⟩
    · by_cases w : k = n
      · rw [w]; exact uset_eq _ _ _ _
      · rw [uset_nj w]; exact k1 k (by omega)
    · rw [uset_na hb]; exact k2 b j hb
theorem mvN {r j : Nat} (hr : r < 4) (t_ j_ : Int32) (et : t_ = Int32.ofNat r) (ej : j_ = Int32.ofNat j) (y : SG) : ∀ n, j + n ≤ 60 → (∀ k, k < n → itr (B_copy_92 t_ j_) 0 n y 151 (60 * r + j + k) = y 152 k) ∧ ∀ b l, ¬ (b = 151 ∧ 60 * r + j ≤ l ∧ l < 60 * r + j + n) → itr (B_copy_92 t_ j_) 0 n y b l = y b l := by
  intro n
  induction n with
  | zero => exact fun _ => ⟨fun i hi => absurd hi (by omega), fun b j _ => rfl⟩
  | succ n ih =>
    intro hn
    obtain ⟨k1, k2⟩ := ih (by omega)
    rw [itr_0]
    generalize itr (B_copy_92 t_ j_) 0 n y = a at *
    have ix : (((60 * t_) + j_) + (Int32.ofNat n)).toNatClampNeg = 60 * r + j + n := by
      rw [et, ej, show ((60 * Int32.ofNat r) + Int32.ofNat j) + Int32.ofNat n = Int32.ofNat (60 * r + j + n) from ofn_add (ofn_add (ofn_mul rfl rfl) rfl) rfl]
      exact ofn_c (by omega)
    have e : B_copy_92 t_ j_ n a = uset a 151 (60 * r + j + n) (y 152 n) := by
      unfold B_copy_92
      dsimp only
      rw [ix, k2 152 n (by omega)]
    rw [e]
    refine ⟨fun k hk => ?_, fun b l hb => ?_⟩
    · by_cases w : k = n
      · rw [w]; exact uset_eq _ _ _ _
      · rw [uset_nj (by omega)]; exact k1 k (by omega)
    · rw [uset_ne (by omega)]; exact k2 b l (by omega)
theorem kT {α : Type} (a b : α) : (bif true then a else b) = a := by
  have h : ∀ c : Bool, c = true → (bif c then a else b) = a := fun c hc => by
    subst hc
    rfl
  exact h true rfl
theorem kF {α : Type} (a b : α) : (bif false then a else b) = b := by
  have h : ∀ c : Bool, c = false → (bif c then a else b) = b := fun c hc => by
    subst hc
    rfl
  exact h false rfl
theorem lT : (!true) = false := by
  have h : ∀ c : Bool, c = true → (!c) = false := fun c hc => by
    subst hc
    rfl
  exact h true rfl
theorem lF : (!false) = true := by
  have h : ∀ c : Bool, c = false → (!c) = true := fun c hc => by
    subst hc
    rfl
  exact h false rfl
theorem cpM {y : SG} {s_ i t j n : Int32} (h1 : bl s_ 4 = true) (h2 : bl t 4 = true) : F_copy y s_ i t j n = bif m_cmp .eq (y 148 s_.toNatClampNeg) 0 then F_meets y 1 else (bif m_cmp .ne (y 148 t.toNatClampNeg) 0 then (bif m_cmp .eq (y 149 s_.toNatClampNeg) (y 149 t.toNatClampNeg) then (bif (bif m_cmp .lt i 0 then false else (bif m_cmp .lt j 0 then false else (bif m_cmp .lt n 0 then false else (bif m_cmp .gt (lg_cmp (i.toInt64 + n.toInt64) ((y 150 s_.toNatClampNeg).toInt64)) 0 then false else m_cmp .le (lg_cmp (j.toInt64 + n.toInt64) ((y 150 t.toNatClampNeg).toInt64)) 0)))) then (1, itr (B_copy_92 t j) 0 n.toNatClampNeg (itr (B_copy_71 s_ i) 0 n.toNatClampNeg y)) else F_meets y 2) else F_meets y 4) else F_meets y 1) := by
  dsimp only [F_copy]
  rw [isS_e, isS_n, h1, h2]
  simp only [lT, lF, kT, kF]
  cases m_cmp .eq (y 148 s_.toNatClampNeg) 0
  · cases m_cmp .ne (y 148 t.toNatClampNeg) 0
    · simp only [lT, lF, kT, kF]
    · cases m_cmp .eq (y 149 s_.toNatClampNeg) (y 149 t.toNatClampNeg)
      · simp only [lT, lF, kT, kF]
      · cases m_cmp .lt i 0
        · cases m_cmp .lt j 0
          · cases m_cmp .lt n 0
            · cases m_cmp .gt (lg_cmp (i.toInt64 + n.toInt64) ((y 150 s_.toNatClampNeg).toInt64)) 0
              · simp only [lT, lF, kT, kF]
              · simp only [lT, lF, kT, kF]
            · simp only [lT, lF, kT, kF]
          · simp only [lT, lF, kT, kF]
        · simp only [lT, lF, kT, kF]
  · simp only [lT, lF, kT, kF]
theorem q_copy {s : SG} (h : KF s) (s_ i t j n : Int32) : QK (F_ccopy s s_ i t j n) (fun y => F_copy y s_ i t j n) := by
  have eC := cs_ccopy s s_ i t j n
  cases q1 : bl s_ 4 with
  | false =>
    rw [q1, kF] at eC
    refine same_q h eC ?_
    dsimp only [F_copy]
    rw [isS_e, q1]
    simp only [lT, lF, kT, kF]
  | true =>
    cases q2 : bl t 4 with
    | false =>
      rw [q1, q2, kT, kF] at eC
      refine same_q h eC ?_
      dsimp only [F_copy]
      rw [isS_e, isS_n, q1, q2]
      simp only [lT, lF, kT, kF]
    | true =>
      rw [q1, q2, kT, kT] at eC
      obtain ⟨es, hq⟩ := bl_ofn q1
      obtain ⟨et, hr⟩ := bl_ofn q2
      have hq : s_.toNatClampNeg < 4 := hq
      have hr : t.toNatClampNeg < 4 := hr
      have eM : ∀ y, _ := fun y => cpM (y := y) (i := i) (j := j) (n := n) q1 q2
      generalize s_.toNatClampNeg = q at *
      generalize t.toNatClampNeg = r at *
      have Kq := h.1.2.2.2.2.1 q hq
      have Kr := h.1.2.2.2.2.1 r hr
      unfold G_ccopy at eC
      rw [Kq.1, eq_ne (s (115 + 2 * r) 1) 0, Kr.1, Bool.not_not, Kq.2.1, Kr.2.1] at eC
      have find : ∀ v : Int32, F_ccopy s s_ i t j n = F_find s v → F_copy (F_find s v).2 s_ i t j n = F_meets (F_find s v).2 v → QK (F_ccopy s s_ i t j n) (fun y => F_copy y s_ i t j n) := fun v a b => find_q h a b
      have c148 : ∀ v p, (F_find s v).2 148 p = s 148 p := fun _ _ => rfl
      have c149 : ∀ v p, (F_find s v).2 149 p = s 149 p := fun _ _ => rfl
      have c150 : ∀ v p, (F_find s v).2 150 p = s 150 p := fun _ _ => rfl
      cases q3 : m_cmp .ne (s 148 q) 0 with
      | false =>
        rw [q3] at eC
        simp only [lT, lF, kT, kF] at eC
        refine find 1 eC ?_
        rw [eM, c148, eq_ne, q3]
        simp only [lT, lF, kT, kF]
      | true =>
        cases q4 : m_cmp .ne (s 148 r) 0 with
        | false =>
          rw [q3, q4] at eC
          simp only [lT, lF, kT, kF] at eC
          refine find 1 eC ?_
          rw [eM, c148, c148, eq_ne, q3, q4]
          simp only [lT, lF, kT, kF]
        | true =>
          cases q5 : m_cmp .eq (s 149 q) (s 149 r) with
          | false =>
            rw [q3, q4, q5] at eC
            simp only [lT, lF, kT, kF] at eC
            refine find 4 eC ?_
            rw [eM, c148, c148, c149, c149, eq_ne, q3, q4, q5]
            simp only [lT, lF, kT, kF]
          | true =>
            rw [q3, q4, q5] at eC
            simp only [lT, lF, kT, kF] at eC
            have iq := hr_iff Kq (f := i) (m := n)
            have ir := hr_iff Kr (f := j) (m := n)
            have e0 : (0 : Int32).toInt = 0 := by decide
            have cond : (bif m_cmp .lt i 0 then false else (bif m_cmp .lt j 0 then false else (bif m_cmp .lt n 0 then false else (bif m_cmp .gt (lg_cmp (i.toInt64 + n.toInt64) ((s 150 q).toInt64)) 0 then false else m_cmp .le (lg_cmp (j.toInt64 + n.toInt64) ((s 150 r).toInt64)) 0)))) = true ↔ 0 ≤ i.toInt ∧ 0 ≤ j.toInt ∧ 0 ≤ n.toInt ∧ i.toInt + n.toInt ≤ (s 150 q).toInt ∧ j.toInt + n.toInt ≤ (s 150 r).toInt := by
              have g1 := lgc_gt (x := i.toInt64 + n.toInt64) (y := (s 150 q).toInt64)
              have g2 := lgc_le (x := j.toInt64 + n.toInt64) (y := (s 150 r).toInt64)
              rw [i64_sum, Int32.toInt_toInt64] at g1 g2
              cases a1 : m_cmp .lt i 0 with
              | true =>
                have := m_lt_iff.mp a1
                exact ⟨fun w => (by cases w), fun w => by omega⟩
              | false =>
                have a1 := m_ff m_lt_iff a1
                cases a2 : m_cmp .lt j 0 with
                | true =>
                  have := m_lt_iff.mp a2
                  exact ⟨fun w => (by cases w), fun w => by omega⟩
                | false =>
                  have a2 := m_ff m_lt_iff a2
                  cases a3 : m_cmp .lt n 0 with
                  | true =>
                    have := m_lt_iff.mp a3
                    exact ⟨fun w => (by cases w), fun w => by omega⟩
                  | false =>
                    have a3 := m_ff m_lt_iff a3
                    cases a4 : m_cmp .gt (lg_cmp (i.toInt64 + n.toInt64) ((s 150 q).toInt64)) 0 with
                    | true =>
                      have := g1.mp a4
                      exact ⟨fun w => (by cases w), fun w => by omega⟩
                    | false =>
                      have a4 := m_ff g1 a4
                      show m_cmp .le (lg_cmp (j.toInt64 + n.toInt64) ((s 150 r).toInt64)) 0 = true ↔ _
                      rw [g2]
                      exact ⟨fun w => by omega, fun w => by omega⟩
            have bad : ¬ (0 ≤ i.toInt ∧ 0 ≤ j.toInt ∧ 0 ≤ n.toInt ∧ i.toInt + n.toInt ≤ (s 150 q).toInt ∧ j.toInt + n.toInt ≤ (s 150 r).toInt) → F_ccopy s s_ i t j n = F_find s 2 → QK (F_ccopy s s_ i t j n) (fun y => F_copy y s_ i t j n) := fun w a => by
              refine find 2 a ?_
              rw [eM, c148, c148, c149, c149, c150, c150, eq_ne, q3, q4, q5, Bool.eq_false_iff.mpr (fun x => w (cond.mp x))]
              simp only [lT, lF, kT, kF]
            cases q6 : G_hr q s i n with
            | false =>
              rw [q6, kF] at eC
              exact bad (fun w => by rw [iq.mpr ⟨w.1, w.2.2.1, w.2.2.2.1⟩] at q6; cases q6) eC
            | true =>
              cases q7 : G_hr r s j n with
              | false =>
                rw [q6, q7, kT, kF] at eC
                exact bad (fun w => by rw [ir.mpr ⟨w.2.1, w.2.2.1, w.2.2.2.2⟩] at q7; cases q7) eC
              | true =>
                rw [q6, q7, kT, kT] at eC
                obtain ⟨i0, n0, iN⟩ := iq.mp q6
                obtain ⟨j0, -, jN⟩ := ir.mp q7
                have ct := cond.mpr ⟨i0, j0, n0, iN, jN⟩
                have ei := (ofn_cl i i0).symm
                have ej := (ofn_cl j j0).symm
                have sq : (s 150 q).toInt.toNat ≤ 60 := Kq.2.2.2.2.1
                have sr : (s 150 r).toInt.toNat ≤ 60 := Kr.2.2.2.2.1
                have li : i.toNatClampNeg + n.toNatClampNeg ≤ 60 := by show i.toInt.toNat + n.toInt.toNat ≤ 60; omega
                have lj : j.toNatClampNeg + n.toNatClampNeg ≤ 60 := by show j.toInt.toNat + n.toInt.toNat ≤ 60; omega
                generalize i.toNatClampNeg = I at *
                generalize j.toNatClampNeg = J at *
                generalize n.toNatClampNeg = N at *
                have cm : ∀ b l, ¬ (b = 116 + 2 * r ∧ J ≤ l ∧ l < J + N) → mvs s (116 + 2 * q) I (116 + 2 * r) J N b l = s b l := fun b l w => if_neg w
                have cm2 : ∀ l, J ≤ l → l < J + N → mvs s (116 + 2 * q) I (116 + 2 * r) J N (116 + 2 * r) l = s (116 + 2 * q) (I + (l - J)) := fun l l1 l2 => if_pos ⟨rfl, l1, l2⟩
                unfold QK
                rw [eC]
                dsimp only
                generalize mvs s (116 + 2 * q) I (116 + 2 * r) J N = c at *
                have d8 : ∀ p, c 148 p = s 148 p := fun p => cm 148 p (by omega)
                have d9 : ∀ p, c 149 p = s 149 p := fun p => cm 149 p (by omega)
                have d0 : ∀ p, c 150 p = s 150 p := fun p => cm 150 p (by omega)
                rw [eM, d8, d8, d9, d9, d0, d0, eq_ne, q3, q4, q5, ct]
                simp only [lT, lF, kT, kF]
                obtain ⟨m1, m2⟩ := mvM hq s_ i es ei c N li
                generalize itr (B_copy_71 s_ i) 0 N c = y at *
                obtain ⟨p1, p2⟩ := mvN hr t j et ej y N lj
                generalize itr (B_copy_92 t j) 0 N y = f at *
                have f1 : ∀ b l, b ≠ 151 → b ≠ 152 → f b l = c b l := fun b l b1 b2 => (p2 b l (by omega)).trans (m2 b l b2)
                refine ⟨h.sh (fun b l hb => ?_) ⟨KHs_upd h.1.2.2.2.2.1 (q := r) (fun b l b1 b2 b3 b4 => ?_) (fun b l b1 b2 b3 => ?_) (fun l hl => ?_) ⟨?_, ?_, ?_, ?_, ?_, fun l hl => ?_⟩, ?_⟩, trivial⟩
                · have b1 : ¬ (115 ≤ b ∧ b ≤ 122) := fun w => by rw [inW_r 115 122 w.1 w.2 rfl] at hb; cases hb
                  have b2 : ¬ (148 ≤ b ∧ b ≤ 152) := fun w => by rw [inW_r 148 152 w.1 w.2 rfl] at hb; cases hb
                  rw [f1 b l (by omega) (by omega)]
                  exact cm b l (by omega)
                · rw [f1 b l (by omega) (by omega)]; exact cm b l (by omega)
                · rw [f1 b l (by omega) (by omega)]; exact cm b l (by omega)
                · rw [p2 151 l (by omega), m2 151 l (by decide)]; exact cm 151 l (by omega)
                · rw [f1 _ _ (by omega) (by omega), f1 148 r (by decide) (by decide), d8, cm _ _ (by omega)]; exact Kr.1
                · rw [f1 _ _ (by omega) (by omega), f1 149 r (by decide) (by decide), d9, cm _ _ (by omega)]; exact Kr.2.1
                · rw [f1 _ _ (by omega) (by omega), f1 150 r (by decide) (by decide), d0, cm _ _ (by omega)]; exact Kr.2.2.1
                · rw [f1 150 r (by decide) (by decide), d0]; exact Kr.2.2.2.1
                · rw [f1 150 r (by decide) (by decide), d0]; exact Kr.2.2.2.2.1
                · rw [f1 _ _ (by omega) (by omega)]
                  by_cases w : J ≤ l ∧ l < J + N
                  · have x := p1 (l - J) (by omega)
                    rw [show 60 * r + J + (l - J) = 60 * r + l by omega, m1 (l - J) (by omega), cm 151 _ (by omega)] at x
                    rw [cm2 l w.1 w.2, x, Kq.2.2.2.2.2 _ (by omega), show 60 * q + I + (l - J) = 60 * q + (I + (l - J)) by omega]
                  · rw [cm _ l (by omega), p2 151 _ (by omega), m2 151 _ (by decide), cm 151 _ (by omega)]
                    exact Kr.2.2.2.2.2 l hl
                · rw [f1 0 4 (by decide) (by decide), f1 123 46 (by decide) (by decide), cm 0 4 (by omega), cm 123 46 (by omega)]
                  exact h.1.2.2.2.2.2
