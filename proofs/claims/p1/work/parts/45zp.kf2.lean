/-! THE WHOLE OF WHAT BOTH SIDES KEEP ALIKE -/
/-- events, river -/
def KE (s : SG) : Prop := s 2 3 = s 123 11 ∧ 0 ≤ (s 2 3).toInt ∧ (s 2 3).toNatClampNeg ≤ 8 ∧ (∀ e, e < 8 → s 3 e = s 130 e ∧ s 4 e = s 131 e ∧ s 5 e = s 132 e) ∧ evC s ∧ s 10 5 = s 123 9 ∧ s 10 6 = s 123 10
def DE : LW := [(2, 2, some 3), (3, 5, none), (10, 10, some 5), (10, 10, some 6), (123, 123, some 9), (123, 123, some 10), (123, 123, some 11), (130, 132, none)]
theorem KE.ag {s s1 : SG} (a : Ag DE s s1) (h : KE s) : KE s1 := by
  unfold KE evC at *
  rw [a 2 3 rfl, a 123 11 rfl, a 10 5 rfl, a 10 6 rfl, a 123 9 rfl, a 123 10 rfl, a.cell 3 (fun _ => rfl), a.cell 4 (fun _ => rfl), a.cell 5 (fun _ => rfl), a.cell 130 (fun _ => rfl), a.cell 131 (fun _ => rfl), a.cell 132 (fun _ => rfl)]
  exact h
/-- sightings -/
def KS (s : SG) : Prop := s 6 2 = s 123 37 ∧ 0 ≤ (s 6 2).toInt ∧ (s 6 2).toNatClampNeg ≤ 8 ∧ (∀ i, i < 8 → s 7 i = s 145 i ∧ s 8 i = s 146 i) ∧ ∀ i, i < (s 6 2).toNatClampNeg → ∃ m, m < 24 ∧ s 7 i = Int32.ofNat m
def DS : LW := [(6, 6, some 2), (7, 8, none), (123, 123, some 37), (145, 146, none)]
theorem KS.ag {s s1 : SG} (a : Ag DS s s1) (h : KS s) : KS s1 := by
  unfold KS at *
  rw [a 6 2 rfl, a 123 37 rfl, a.cell 7 (fun _ => rfl), a.cell 8 (fun _ => rfl), a.cell 145 (fun _ => rfl), a.cell 146 (fun _ => rfl)]
  exact h
/-- sheets, finding -/
def KHq (s : SG) (q : Nat) : Prop := m_cmp .ne (s (115 + 2 * q) 1) 0 = !(m_cmp .ne (s 148 q) 0) ∧ s (115 + 2 * q) 2 = s 149 q ∧ s (115 + 2 * q) 3 = s 150 q ∧ 0 ≤ (s 150 q).toInt ∧ (s 150 q).toNatClampNeg ≤ 60 ∧ ∀ i, i < 60 → s (116 + 2 * q) i = s 151 (60 * q + i)
def KH (s : SG) : Prop := (∀ q, q < 4 → KHq s q) ∧ s 0 4 = s 123 46
def DH : LW := [(115, 122, none), (148, 151, none), (0, 0, some 4), (123, 123, some 46)]
theorem KHq.ag {s s1 : SG} {q : Nat} (h : KHq s q) (hq : q < 4) (a1 : ∀ j, s1 (115 + 2 * q) j = s (115 + 2 * q) j) (a2 : ∀ j, s1 (116 + 2 * q) j = s (116 + 2 * q) j) (a3 : s1 148 q = s 148 q) (a4 : s1 149 q = s 149 q) (a5 : s1 150 q = s 150 q) (a6 : ∀ i, i < 60 → s1 151 (60 * q + i) = s 151 (60 * q + i)) : KHq s1 q := by
  obtain ⟨b1, b2, b3, b4, b5, b6⟩ := h
  unfold KHq
  rw [a1, a1, a1, a3, a4, a5]
  exact ⟨b1, b2, b3, b4, b5, fun i hi => by rw [a2, a6 i hi]; exact b6 i hi⟩
theorem KH.ag {s s1 : SG} (a : Ag DH s s1) (h : KH s) : KH s1 := ⟨fun q hq => (h.1 q hq).ag hq (fun j => a _ j (inW_r 115 122 (by omega) (by omega) rfl)) (fun j => a _ j (inW_r 115 122 (by omega) (by omega) rfl)) (a 148 q rfl) (a 149 q rfl) (a 150 q rfl) (fun i _ => a 151 _ rfl), by rw [a 0 4 rfl, a 123 46 rfl]; exact h.2⟩
/-- what the class keeps at hand -/
def TC (s : SG) : Prop := OuC_a (inC_a s 255) 24 s ∧ s 15 8 = sth (trip (inC_a s 255) 24) ∧ ∀ k, k < jn (inC_a s 255) → s 46 k = smn (trip (inC_a s 255) 24) k ∧ s 47 k = ssm (trip (inC_a s 255) 24) k
def GC (s : SG) : Prop := ∀ m, m < 256 → s 96 m = -9 ∨ s 96 m = gfi (inC_a s (Int32.ofNat m)) 24
def KX (s : SG) : Prop := (m_cmp .eq (s 0 12) 0 = true → TC s) ∧ (m_cmp .eq (s 0 13) 0 = true → GC s)
def DJ : LW := [(2, 2, some 3), (3, 5, none), (10, 10, some 0), (10, 10, some 5), (10, 10, some 6), (11, 14, none)]
theorem befC_ag {s s1 : SG} (a : Ag DJ s s1) (m : Int32) : befC s1 m = befC s m := by
  funext t
  unfold befC
  rw [a 2 3 rfl, a.cell 3 (fun _ => rfl), a.cell 4 (fun _ => rfl), a.cell 5 (fun _ => rfl)]
theorem inC_ag {s s1 : SG} (a : Ag DJ s s1) (m : Int32) : inC_a s1 m = inC_a s m := by
  unfold inC_a
  rw [befC_ag a, a 10 0 rfl, a 10 5 rfl, a 10 6 rfl, a.cell 11 (fun _ => rfl), a.cell 12 (fun _ => rfl), a.cell 13 (fun _ => rfl), a.cell 14 (fun _ => rfl)]
def DTC : LW := [(2, 2, some 3), (3, 5, none), (10, 10, some 0), (10, 10, some 5), (10, 10, some 6), (11, 14, none), (15, 15, some 8), (16, 20, none), (22, 47, none)]
def DGC : LW := [(2, 2, some 3), (3, 5, none), (10, 10, some 0), (10, 10, some 5), (10, 10, some 6), (11, 14, none), (96, 96, none)]
def DX : LW := [(0, 0, some 12), (0, 0, some 13), (2, 2, some 3), (3, 5, none), (10, 10, some 0), (10, 10, some 5), (10, 10, some 6), (11, 14, none), (15, 15, some 8), (16, 20, none), (22, 47, none), (96, 96, none)]
theorem OuC_ag {J : TI} {s s1 : SG} {i : Nat} (hi : i ≤ 24) (a : Ag DTC s s1) (h : OuC_a J i s) : OuC_a J i s1 := fun t ht => by
  rw [a 16 t rfl, a 17 t rfl, a 18 t rfl, a 19 t rfl, a 20 t rfl]
  obtain ⟨h1, h2, h3, h4, h5, h6⟩ := h t ht
  exact ⟨h1, h2, h3, h4, h5, fun k hk => (a (22 + t) k (inW_r 22 47 (by omega) (by omega) rfl)).trans (h6 k hk)⟩
theorem TC.ag {s s1 : SG} (a : Ag DTC s s1) (h : TC s) : TC s1 := by
  have e := inC_ag (a.sub rfl) (m := 255)
  unfold TC at *
  rw [e, a 15 8 rfl, a.cell 46 (fun _ => rfl), a.cell 47 (fun _ => rfl)]
  exact ⟨OuC_ag (Nat.le_refl _) a h.1, h.2⟩
theorem GC.ag {s s1 : SG} (a : Ag DGC s s1) (h : GC s) : GC s1 := fun m hm => by
  rw [inC_ag (a.sub rfl), a 96 m rfl]
  exact h m hm
theorem KX.ag {s s1 : SG} (a : Ag DX s s1) (h : KX s) : KX s1 := ⟨fun q => (h.1 (by rw [a 0 12 rfl] at q; exact q)).ag (a.sub rfl), fun q => (h.2 (by rw [a 0 13 rfl] at q; exact q)).ag (a.sub rfl)⟩
/-- stale: nothing is kept at hand -/
theorem KX.stale {s : SG} (h1 : s 0 12 = 1) (h2 : s 0 13 = 1) : KX s := ⟨fun q => (by rw [h1] at q; cases q), fun q => (by rw [h2] at q; cases q)⟩
theorem KX.mark (s : SG) : KX (F_mark s) := KX.stale rfl rfl
/-- what was told -/
def KG (s : SG) : Prop := KU s ∧ KC s ∧ KE s ∧ KS s ∧ KH s
def KF (s : SG) : Prop := KG s ∧ KX s
def DG : LW := [(109, 114, none), (124, 125, none), (10, 10, some 0), (11, 14, none), (2, 2, some 3), (3, 5, none), (10, 10, some 5), (10, 10, some 6), (123, 123, some 9), (123, 123, some 10), (123, 123, some 11), (130, 132, none), (6, 6, some 2), (7, 8, none), (123, 123, some 37), (145, 146, none), (115, 122, none), (148, 151, none), (0, 0, some 4), (123, 123, some 46)]
def DF : LW := DG ++ [(0, 0, some 12), (0, 0, some 13), (15, 15, some 8), (16, 20, none), (22, 47, none), (96, 96, none)]
theorem KG.ag {s s1 : SG} (a : Ag DG s s1) (h : KG s) : KG s1 := ⟨h.1.ag (a.sub rfl), h.2.1.ag (a.sub rfl), h.2.2.1.ag (a.sub rfl), h.2.2.2.1.ag (a.sub rfl), h.2.2.2.2.ag (a.sub rfl)⟩
theorem KF.ag {s s1 : SG} (a : Ag DF s s1) (h : KF s) : KF s1 := ⟨h.1.ag (a.sub rfl), h.2.ag (a.sub rfl)⟩
/-! powers and rates are what they may be -/
theorem ofn_ne {i : Nat} (h : i < 1000) : Int32.ofNat i ≠ -1 := fun e => by
  have e := congrArg Int32.toInt e
  rw [ofn_int (by omega)] at e
  have e2 : (-1 : Int32).toInt = -1 := by decide
  omega
theorem pw19 {s : SG} (t : KT s) (c : KC0 s) {k : Nat} (hk : k < (s 10 0).toNatClampNeg) : 1 ≤ (s 12 k).toInt ∧ (s 12 k).toInt ≤ 9 := by
  obtain ⟨⟨x, x1, x2⟩, c2⟩ := c
  have h2 := (c2 k hk).2
  obtain ⟨hl, e0, -⟩ := t
  rw [x2, e0] at hk
  obtain ⟨l1, l2⟩ := rowLt hl.1 hl.2.1 hk
  have hx : x = -1 := by
    unfold rowN at hk
    cases q : m_cmp .ne x (-1) with
    | true =>
      rw [q] at hk
      have hk : k < (0 : Int32).toNatClampNeg := hk
      have e : (0 : Int32).toNatClampNeg = 0 := rfl
      omega
    | false => exact Decidable.not_not.mp (m_ff m_ne_iff q)
  rw [e0] at x1
  have hf : fitCb (3 * k + 1) (s 110 (3 * k + 1)) = true := by
    rcases x1 with ⟨i, i1, -, -, i4⟩ | ⟨i1, -⟩
    · rw [hx] at i4
      have l3 := hl.2.1
      exact absurd i4.symm (ofn_ne (by omega))
    · exact i1 _ l1
  rw [f1C] at hf
  rw [h2]
  generalize s 110 (3 * k + 1) = b at *
  have e49 : (49 : Int32).toInt = 49 := by decide
  have e57 : (57 : Int32).toInt = 57 := by decide
  have e48 : (48 : Int32).toInt = 48 := by decide
  cases q1 : m_cmp .lt b 49 with
  | true => rw [q1] at hf; cases hf
  | false =>
    cases q2 : m_cmp .gt b 57 with
    | true => rw [q1, q2] at hf; cases hf
    | false =>
      have q1 := m_ff m_lt_iff q1
      have q2 := m_ff m_gt_iff q2
      have d : (b - 48).toInt = b.toInt - 48 := (i32_sub (by omega) (by omega)).trans (by omega)
      omega
theorem rt03 {s : SG} (c : KC1 s) {t : Nat} (ht : t < 24) : 0 ≤ (s 13 t).toInt ∧ (s 13 t).toInt ≤ 3 := by
  rw [c t ht]
  unfold ratS
  have e48 : (48 : Int32).toInt = 48 := by decide
  have e51 : (51 : Int32).toInt = 51 := by decide
  cases q : m_cmp .ge (Int32.ofNat t) (manyS fitRb (s 111 1) (s 112)) with
  | true => exact (show 0 ≤ (2 : Int32).toInt ∧ (2 : Int32).toInt ≤ 3 from by decide)
  | false =>
    show 0 ≤ (s 112 t - 48).toInt ∧ (s 112 t - 48).toInt ≤ 3
    have l := manyS_lt ht q
    have hf : fitRb (s 112 t) = true := by
      rcases flt_cases fitRb (s 111 1) (s 112) with ⟨-, -, h⟩ | ⟨i, i1, -, i3⟩
      · exact h t l
      · exfalso
        have l2 := m_ff m_ge_iff q
        unfold manyS at l2
        rw [i3, m_ne_iff.mpr (fun e => by
          have e := congrArg Int32.toInt e
          rw [ofn_int (by have := cl_lt (s 111 1); omega)] at e
          have e2 : (-1 : Int32).toInt = -1 := by decide
          omega)] at l2
        have l2 : ¬ (0 : Int32).toInt ≤ (Int32.ofNat t).toInt := l2
        rw [ofn_int (by omega)] at l2
        have e0 : (0 : Int32).toInt = 0 := by decide
        omega
    unfold fitRb at hf
    generalize s 112 t = b at *
    cases q1 : m_cmp .lt b 48 with
    | true => rw [q1] at hf; cases hf
    | false =>
      cases q2 : m_cmp .gt b 51 with
      | true => rw [q1, q2] at hf; cases hf
      | false =>
        have q1 := m_ff m_lt_iff q1
        have q2 := m_ff m_gt_iff q2
        have d : (b - 48).toInt = b.toInt - 48 := (i32_sub (by omega) (by omega)).trans (by omega)
        omega
theorem ovC {s : SG} (t : KT s) (c : KC s) (m : Int32) : ovJ (inC_a s m) := ovJ_of (row8 t c.1) (fun k hk => pw19 t c.1 hk) (fun t ht => rt03 c.2.1 ht)
/-! the told trip of the class -/
theorem tt {s : SG} (h : KF s) : KF (F_toldTrip s) ∧ TC (F_toldTrip s) ∧ Ag DG s (F_toldTrip s) := by
  obtain ⟨g, x⟩ := h
  unfold F_toldTrip
  dsimp only
  cases q : m_cmp .eq (s 0 12) 0 with
  | true => exact ⟨⟨g, x⟩, x.1 q, Ag.rf _ _⟩
  | false =>
    show KF (uset (F_row_a s 255) 0 12 0) ∧ TC (uset (F_row_a s 255) 0 12 0) ∧ Ag DG s (uset (F_row_a s 255) 0 12 0)
    obtain ⟨m, p, R⟩ := rowC_a (s := s) (mask := 255) (row8 g.1.1 g.2.1.1) g.2.2.1.2.2.2.2.1
    generalize F_row_a s 255 = z at *
    obtain ⟨f, -, -, r1, r2, -, r4⟩ := R
    have f : Fr W_row_a s z := f
    have r1 : z 15 8 = sth (trip (inC_a s 255) 24) := r1
    have r4 : OuC_a (inC_a s 255) 24 z := r4
    have fz : Fr [(0, 0, some 12)] z (uset z 0 12 0) := Fr.uset rfl (Fr.rf _ _)
    have aG : Ag DG s (uset z 0 12 0) := (f.ag DG rfl).tr (fz.ag DG rfl)
    have aJ : Ag DJ s z := f.ag DJ rfl
    have tz : TC z := by
      unfold TC
      rw [inC_ag aJ]
      exact ⟨r4, r1, fun k hk => ⟨(r2 k hk).1, (r2 k hk).2.1⟩⟩
    have tz2 : TC (uset z 0 12 0) := tz.ag (fz.ag DTC rfl)
    refine ⟨⟨g.ag aG, fun _ => tz2, fun w => ?_⟩, tz2, aG⟩
    have e : uset z 0 12 0 0 13 = s 0 13 := (fz 0 13 rfl).trans (f 0 13 rfl)
    rw [e] at w
    exact (x.2 w).ag ((f.ag DGC rfl).tr (fz.ag DGC rfl))
/-! what the model runs -/
theorem itr_cong {α : Type} {f g : Nat → α → α} {a : α} {n : Nat} (h : ∀ i x, i < n → f i x = g i x) : ∀ m, m ≤ n → itr f 0 m a = itr g 0 m a
  | 0, _ => rfl
  | m + 1, hm => by rw [itr_0, itr_0, itr_cong h m (by omega), h m _ (by omega)]
theorem bef_c {n : Nat} {K Mi Nu K2 Mi2 Nu2 : NI} {off off2 : Nat → Bool} {t : Nat} (h : ∀ e, e < n → K e = K2 e ∧ Mi e = Mi2 e ∧ Nu e = Nu2 e ∧ off e = off2 e) : bef n K Mi Nu off t = bef n K2 Mi2 Nu2 off2 t := itr_cong (fun e x he => by
  obtain ⟨h1, h2, h3, h4⟩ := h e he
  unfold bstep
  rw [h1, h2, h3, h4]) n (Nat.le_refl _)
def MOu (J : TI) (a : SG) : Prop := a 123 19 = sme (trip J 24) ∧ a 123 20 = spl' (trip J 24) ∧ a 123 21 = sth (trip J 24) ∧ a 123 22 = gma J 24 ∧ a 123 23 = gfi J 24 ∧ a 123 24 = far J 24 ∧ (∀ k, k < jn J → a 137 k = smn (trip J 24) k ∧ a 138 k = ssm (trip J 24) k) ∧ OuM J 24 a
theorem runMO {z : SG} {J : TI} (hn : (z 123 2).toNatClampNeg ≤ 8) (hse : ∀ k, k < 8 → ∃ j, j < 8 ∧ z 135 k = Int32.ofNat j) (e : eqJ (inM z) J) (ov : ovJ J) : MOu J (F_runs z) ∧ Fr W_runs z (F_runs z) := by
  obtain ⟨f, a1, a2, a3, a4, a5, a6, a7, a8⟩ := runM hn hse (ov_c e ov)
  have T := trip_c e 24 (Nat.le_refl _)
  refine ⟨⟨a1.trans T.1, a2.trans T.2.1, a3.trans T.2.2.1, a4.trans (gma_c e 24 (Nat.le_refl _)), a5.trans (gfi_c e 24 (Nat.le_refl _)), a6.trans (far_c e 24 (Nat.le_refl _)), fun k hk => ?_, fun t ht => ?_⟩, f⟩
  · have hk2 : k < jn (inM z) := by rw [e.1]; exact hk
    exact ⟨(a7 k hk2).1.trans (T.2.2.2 k hk2).1, (a7 k hk2).2.trans (T.2.2.2 k hk2).2⟩
  · obtain ⟨b1, b2, b3, b4, b5, b6⟩ := a8 t ht
    have S := trip_c e (t + 1) (by omega)
    have L := lrs_t e ht
    rw [L] at b3 b4
    refine ⟨b1.trans S.1, b2.trans S.2.1, b3, b4, b5.trans (gr_t e ht), fun k hk => ?_⟩
    have hk2 : k < jn (inM z) := by rw [e.1]; exact hk
    exact (b6 k hk2).trans (pul_t e ht hk2)
/-- the model's inputs, as told -/
def AsT (s z : SG) : Prop := z 123 2 = s 10 0 ∧ (∀ k, k < (s 10 0).toNatClampNeg → z 126 k = s 11 k ∧ z 127 k = s 12 k) ∧ (∀ t, t < 24 → z 133 t = s 13 t ∧ z 134 t = s 14 t) ∧ (∀ k, k < 8 → z 135 k = Int32.ofNat k) ∧ z 123 17 = 0 ∧ Fr W_asTold s z
theorem asT {s : SG} (t : KT s) (c : KC s) : AsT s (F_asTold s) := by
  obtain ⟨d1, d2, d3⟩ := kd t c
  have fr := fr_asTold s
  have k1 : ∀ i, i ≤ 24 → (∀ t, t < i → itr B_asTold_4 0 i (F_reads s) 133 t = F_reads s 128 t ∧ itr B_asTold_4 0 i (F_reads s) 134 t = F_reads s 129 t) ∧ ∀ b j, b ≠ 133 → b ≠ 134 → itr B_asTold_4 0 i (F_reads s) b j = F_reads s b j := by
    intro i
    generalize F_reads s = w
    induction i with
    | zero => exact fun _ => ⟨fun t ht => absurd ht (by omega), fun b j _ _ => rfl⟩
    | succ i ih =>
      intro hi
      obtain ⟨h1, h2⟩ := ih (by omega)
      rw [itr_0]
      generalize itr B_asTold_4 0 i w = a at *
      have e : B_asTold_4 i a = uset (uset a 133 i (a 128 i)) 134 i (a 129 i) := rfl
      rw [e, h2 128 i (by decide) (by decide), h2 129 i (by decide) (by decide)]
      refine ⟨fun t ht => ?_, fun b j b1 b2 => ?_⟩
      · by_cases q : t = i
        · rw [q]
          exact ⟨(uset_na (by decide)).trans (uset_eq _ _ _ _), uset_eq _ _ _ _⟩
        · rw [uset_na (by decide), uset_nj q, uset_nj q, uset_na (by decide)]
          exact h1 t (by omega)
      · rw [uset_na b2, uset_na b1]
        exact h2 b j b1 b2
  obtain ⟨k2, k3⟩ := k1 24 (Nat.le_refl _)
  have eF : F_asTold s = itr B_asTold_30 0 8 (uset (itr B_asTold_4 0 24 (F_reads s)) 123 17 0) := rfl
  rw [eF] at fr ⊢
  generalize itr B_asTold_4 0 24 (F_reads s) = y at *
  have k4 : ∀ i, i ≤ 8 → (∀ k, k < i → itr B_asTold_30 0 i (uset y 123 17 0) 135 k = Int32.ofNat k) ∧ ∀ b j, b ≠ 135 → itr B_asTold_30 0 i (uset y 123 17 0) b j = uset y 123 17 0 b j := by
    intro i
    induction i with
    | zero => exact fun _ => ⟨fun t ht => absurd ht (by omega), fun b j _ => rfl⟩
    | succ i ih =>
      intro hi
      obtain ⟨h1, h2⟩ := ih (by omega)
      rw [itr_0]
      generalize itr B_asTold_30 0 i (uset y 123 17 0) = a at *
      have e : B_asTold_30 i a = uset a 135 i (Int32.ofNat i) := rfl
      rw [e]
      refine ⟨fun k hk => ?_, fun b j b1 => ?_⟩
      · by_cases q : k = i
        · rw [q]; exact uset_eq _ _ _ _
        · rw [uset_nj q]; exact h1 k (by omega)
      · rw [uset_na b1]; exact h2 b j b1
  obtain ⟨k5, k6⟩ := k4 8 (Nat.le_refl _)
  generalize itr B_asTold_30 0 8 (uset y 123 17 0) = z at *
  refine ⟨?_, fun k hk => ⟨?_, ?_⟩, fun t ht => ⟨?_, ?_⟩, k5, ?_, fr⟩
  · rw [k6 123 2 (by decide), uset_nj (by decide), k3 123 2 (by decide) (by decide)]; exact d1.symm
  · rw [k6 126 k (by decide), uset_na (by decide), k3 126 k (by decide) (by decide)]; exact (d2 k hk).1.symm
  · rw [k6 127 k (by decide), uset_na (by decide), k3 127 k (by decide) (by decide)]; exact (d2 k hk).2.symm
  · rw [k6 133 t (by decide), uset_na (by decide), (k2 t ht).1]; exact (d3 t ht).1.symm
  · rw [k6 134 t (by decide), uset_na (by decide), (k2 t ht).2]; exact (d3 t ht).2.symm
  · rw [k6 123 17 (by decide)]; exact uset_eq _ _ _ _
theorem bit0 : ∀ e, e < 8 → m_cmp .ne (((0 : Int32) >>> ((Int32.ofNat e) &&& 31)) &&& 1) 0 = false := by decide
theorem befT {s z : SG} (h : KE s) (f : Fr W_asTold s z) {set mask : Int32} (h17 : z 123 17 = set) (hb : ∀ e, e < 8 → m_cmp .ne ((set >>> ((Int32.ofNat e) &&& 31)) &&& 1) 0 = !(m_cmp .ne ((mask >>> ((Int32.ofNat e) &&& 31)) &&& 1) 0)) (t : Nat) : befM z t = befC s mask t := by
  obtain ⟨h1, -, h3, h4, -, -, -⟩ := h
  unfold befM befC
  rw [f 123 11 rfl, ← h1]
  refine bef_c (fun e he => ?_)
  obtain ⟨a1, a2, a3⟩ := h4 e (by omega)
  refine ⟨(f 130 e rfl).trans a1.symm, (f 131 e rfl).trans a2.symm, (f 132 e rfl).trans a3.symm, ?_⟩
  unfold offM offC
  rw [isIn_bit, h17]
  exact hb e (by omega)
theorem hb0 : ∀ e, e < 8 → m_cmp .ne (((0 : Int32) >>> ((Int32.ofNat e) &&& 31)) &&& 1) 0 = !(m_cmp .ne (((255 : Int32) >>> ((Int32.ofNat e) &&& 31)) &&& 1) 0) := by decide
theorem eqT_told {s z : SG} (e : KE s) (h8 : (s 10 0).toNatClampNeg ≤ 8) (a : AsT s z) : eqJ (inM z) (inC_a s 255) := by
  obtain ⟨a1, a2, a3, a4, a5, f⟩ := a
  have en : jn (inM z) = (s 10 0).toNatClampNeg := by show (z 123 2).toNatClampNeg = _; rw [a1]
  refine ⟨en, fun k hk => ?_, fun t ht => ?_, ?_, ?_⟩
  · rw [en] at hk
    exact ⟨(a2 k hk).1, (a2 k hk).2, a4 k (by omega)⟩
  · exact ⟨(a3 t ht).1, (a3 t ht).2, befT e f a5 hb0 t⟩
  · show z 123 9 = s 10 5
    rw [f 123 9 rfl]
    exact e.2.2.2.2.2.1.symm
  · show z 123 10 = s 10 6
    rw [f 123 10 rfl]
    exact e.2.2.2.2.2.2.symm
theorem rt {s : SG} (h : KG s) : MOu (inC_a s 255) (F_runsTold s) ∧ F_runsTold s 123 2 = s 10 0 := by
  have a := asT h.1.1 h.2.1
  have h8 := row8 h.1.1 h.2.1.1
  have e := eqT_told h.2.2.1 h8 a
  have eF : F_runsTold s = F_runs (F_asTold s) := rfl
  rw [eF]
  generalize F_asTold s = z at *
  have r := runMO (z := z) (by rw [a.1]; exact h8) (fun k hk => ⟨k, hk, a.2.2.2.1 k hk⟩) e (ovC h.1.1 h.2.1 255)
  exact ⟨r.1, (r.2 123 2 rfl).trans a.1⟩
