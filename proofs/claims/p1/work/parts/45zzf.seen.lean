/-! never and was: does a trip agree with what was seen? -/
def snB (s : SG) (J : TI) : Bool := (List.range (s 6 2).toNatClampNeg).all (fun i => m_cmp .eq (spl' (trip J ((s 7 i).toNatClampNeg + 1))) (s 8 i))
theorem all_rs (p : Nat → Bool) (n : Nat) : (List.range (n + 1)).all p = (bif (List.range n).all p then p n else false) := by
  rw [List.range_succ, List.all_append]
  cases (List.range n).all p
  · rfl
  · show (true && (p n && true)) = p n
    cases p n <;> rfl
/-- the class: left at the first that differs -/
theorem agC {p : Nat → Bool} {B : Nat → Unit → Unit ⊕ Int32} (hB : ∀ i u, B i u = bif p i then .inl () else .inr 0) : ∀ (n lo : Nat), (∀ i, i < lo → p i = true) → Sum.elim (fun _ : Unit => (1 : Int32)) (fun x : Nat × Int32 => x.2) (itx B lo n ()) = bif (List.range (lo + n)).all p then 1 else 0
  | 0, lo, h => by
    have e : (List.range (lo + 0)).all p = true := List.all_eq_true.mpr (fun i hi => h i (List.mem_range.mp hi))
    rw [e]
    rfl
  | n + 1, lo, h => by
    cases q : p lo with
    | true =>
      rw [itx_l B (x := ()) (by rw [hB, q]; rfl), agC hB n (lo + 1) (fun i hi => by
        by_cases w : i = lo
        · rw [w]; exact q
        · exact h i (by omega)), show lo + 1 + n = lo + (n + 1) by omega]
    | false =>
      have e : (List.range (lo + (n + 1))).all p = false := by
        cases w : (List.range (lo + (n + 1))).all p with
        | false => rfl
        | true =>
          have := List.all_eq_true.mp w lo (List.mem_range.mpr (by omega))
          rw [q] at this
          cases this
      rw [itx_r B (b := 0) (by rw [hB, q]; rfl), e]
      rfl
/-- the model: a flag, left behind the first that differs -/
theorem agM0 {p : Nat → Bool} {B : Nat → Int32 → Int32 ⊕ Int32} (hB : ∀ i a, B i a = bif m_cmp .eq a 0 then .inr a else .inl (bif p i then 1 else 0)) (n lo : Nat) : Sum.elim (fun z : Int32 => z) (fun x : Nat × Int32 => x.2) (itx B lo n 0) = 0 := by
  cases n with
  | zero => rfl
  | succ n =>
    rw [itx_r B (b := 0) (by rw [hB]; rfl)]
    rfl
theorem agM {p : Nat → Bool} {B : Nat → Int32 → Int32 ⊕ Int32} (hB : ∀ i a, B i a = bif m_cmp .eq a 0 then .inr a else .inl (bif p i then 1 else 0)) : ∀ (n lo : Nat), (∀ i, i < lo → p i = true) → Sum.elim (fun z : Int32 => z) (fun x : Nat × Int32 => x.2) (itx B lo n 1) = bif (List.range (lo + n)).all p then 1 else 0
  | 0, lo, h => by
    have e : (List.range (lo + 0)).all p = true := List.all_eq_true.mpr (fun i hi => h i (List.mem_range.mp hi))
    rw [e]
    rfl
  | n + 1, lo, h => by
    cases q : p lo with
    | true =>
      rw [itx_l B (x := 1) (by rw [hB, q]; rfl), agM hB n (lo + 1) (fun i hi => by
        by_cases w : i = lo
        · rw [w]; exact q
        · exact h i (by omega)), show lo + 1 + n = lo + (n + 1) by omega]
    | false =>
      have e : (List.range (lo + (n + 1))).all p = false := by
        cases w : (List.range (lo + (n + 1))).all p with
        | false => rfl
        | true =>
          have := List.all_eq_true.mp w lo (List.mem_range.mpr (by omega))
          rw [q] at this
          cases this
      rw [itx_l B (x := 0) (by rw [hB, q]; rfl), agM0 hB, e]
      rfl
theorem all_c {p r : Nat → Bool} {n : Nat} (h : ∀ i, i < n → p i = r i) : (List.range n).all p = (List.range n).all r := by
  induction n with
  | zero => rfl
  | succ n ih => rw [all_rs, all_rs, ih (fun i hi => h i (by omega)), h n (by omega)]
theorem seenC {s z : SG} {J : TI} (hS : KS s) (f : Ag DS s z) (h : COb J z) : F_agreeWith z = bif snB s J then 1 else 0 := by
  have e := agC (p := fun i => m_cmp .eq (z 60 ((z 7 i).toNatClampNeg)) (z 8 i)) (B := B_agreeWith_2 z) (fun _ _ => rfl) (z 6 2).toNatClampNeg 0 (fun i hi => absurd hi (by omega))
  have e2 : F_agreeWith z = Sum.elim (fun _ : Unit => (1 : Int32)) (fun x : Nat × Int32 => x.2) (itx (B_agreeWith_2 z) 0 (z 6 2).toNatClampNeg ()) := rfl
  rw [e2, e, Nat.zero_add, f 6 2 rfl]
  have a : (List.range (s 6 2).toNatClampNeg).all (fun i => m_cmp .eq (z 60 ((z 7 i).toNatClampNeg)) (z 8 i)) = snB s J := all_c (fun i hi => by
    obtain ⟨m, hm, em⟩ := hS.2.2.2.2 i hi
    have c : (s 7 i).toNatClampNeg < 24 := by rw [em, ofn_c (by omega)]; exact hm
    show m_cmp .eq (z 60 ((z 7 i).toNatClampNeg)) (z 8 i) = _
    rw [f 7 i rfl, f 8 i rfl, (h _ c).2.1])
  rw [a]
theorem seenM {s w : SG} {J : TI} (hS : KS s) (f : Fr W_asTold s (F_runs w)) (h : MOu J (F_runs w)) : (F_isSeen w).1 = (bif snB s J then 1 else 0) ∧ (F_isSeen w).2 = F_runs w := by
  have eF : F_isSeen w = Sum.elim (fun z2 : Int32 => (z2, F_runs w)) (fun w2 : Nat × (Int32) => (w2.2, F_runs w)) (itx (B_isSeen_6 (F_runs w)) 0 ((F_runs w 123 37).toNatClampNeg) (1 : Int32)) := rfl
  generalize F_runs w = z at *
  have e := agM (p := fun i => m_cmp .eq (z 140 ((z 145 i).toNatClampNeg)) (z 146 i)) (B := B_isSeen_6 z) (fun i a => by
    have e : B_isSeen_6 z i a = bif m_cmp .eq a 0 then (.inr a) else (.inl (bif m_cmp .ne (z 140 ((z 145 i).toNatClampNeg)) (z 146 i) then (0 : Int32) else (1 : Int32))) := rfl
    rw [e, eq_ne (z 140 ((z 145 i).toNatClampNeg)) (z 146 i)]
    cases m_cmp .ne (z 140 ((z 145 i).toNatClampNeg)) (z 146 i) <;> rfl) (z 123 37).toNatClampNeg 0 (fun i hi => absurd hi (by omega))
  have e3 : ∀ x : Int32 ⊕ (Nat × Int32), (Sum.elim (fun z2 : Int32 => (z2, z)) (fun w2 : Nat × (Int32) => (w2.2, z)) x : Int32 × SG) = (Sum.elim (fun z : Int32 => z) (fun x : Nat × Int32 => x.2) x, z) := fun x => by cases x <;> rfl
  rw [eF, e3, e, Nat.zero_add, f 123 37 rfl, ← hS.1]
  refine ⟨?_, rfl⟩
  have a : (List.range (s 6 2).toNatClampNeg).all (fun i => m_cmp .eq (z 140 ((z 145 i).toNatClampNeg)) (z 146 i)) = snB s J := all_c (fun i hi => by
    obtain ⟨m, hm, em⟩ := hS.2.2.2.2 i hi
    have i8 : i < 8 := by have := hS.2.2.1; omega
    have c : (s 7 i).toNatClampNeg < 24 := by rw [em, ofn_c (by omega)]; exact hm
    show m_cmp .eq (z 140 ((z 145 i).toNatClampNeg)) (z 146 i) = _
    rw [f 145 i rfl, f 146 i rfl, ← (hS.2.2.2.1 i i8).1, ← (hS.2.2.2.1 i i8).2, (h.2.2.2.2.2.2.2 _ c).2.1])
  dsimp only
  rw [a]
theorem eqB (b : Bool) : m_cmp .eq (bif b then (1 : Int32) else 0) 0 = !b := by cases b <;> rfl
theorem snJ {s c : SG} (f : Ag DS s c) : snB c = snB s := by
  funext J
  unfold snB
  rw [f 6 2 rfl, f.cell 7 (fun _ => rfl), f.cell 8 (fun _ => rfl)]
/-! never -/
def mkN (i : Nat) : Int32 := (255 : Int32) &&& ((1 <<< ((Int32.ofNat i) &&& 31)) ^^^ (-1 : Int32))
theorem bitNv : ∀ i, i < 8 → ∀ e, e < 8 → m_cmp .ne ((((1 : Int32) <<< ((Int32.ofNat i) &&& 31)) >>> ((Int32.ofNat e) &&& 31)) &&& 1) 0 = !(m_cmp .ne ((mkN i >>> ((Int32.ofNat e) &&& 31)) &&& 1) 0) := by decide
def nvF (s : SG) (i : Nat) (x : Int32) : Int32 := bif snB s (inC_a s (mkN i)) then x ||| (1 <<< ((Int32.ofNat i) &&& 31)) else x
theorem q_never {s : SG} (h : KF s) : QK (F_cnever s) (fun y => F_never y) := by
  refine ⟨(kf_never h).ag ((fr_never _).ag DF rfl), ?_⟩
  have eC : F_cnever s = ((itr B_cnever_4 0 ((s 2 3).toNatClampNeg) (s, 0)).2, (itr B_cnever_4 0 ((s 2 3).toNatClampNeg) (s, 0)).1) := rfl
  have eM : ∀ y, F_never y = ((itr B_neverNow_6 0 ((F_asTold y 123 11).toNatClampNeg) (F_asTold y, 0)).2, (itr B_neverNow_6 0 ((F_asTold y 123 11).toNatClampNeg) (F_asTold y, 0)).1) := fun _ => rfl
  have h8 := row8 h.1.1.1 h.1.2.1.1
  have hE := h.1.2.2.1
  have n8 : (s 2 3).toNatClampNeg ≤ 8 := hE.2.2.1
  have A : ∀ i, i ≤ (s 2 3).toNatClampNeg → Fr Wo s (itr B_cnever_4 0 i (s, 0)).1 ∧ (itr B_cnever_4 0 i (s, 0)).2 = itr (nvF s) 0 i 0 := by
    intro i
    induction i with
    | zero => exact fun _ => ⟨Fr.rf _ _, rfl⟩
    | succ i ih =>
      intro hi
      obtain ⟨f, e⟩ := ih (by omega)
      rw [itr_0, itr_0, ← e]
      generalize itr B_cnever_4 0 i (s, 0) = a at *
      have eB : B_cnever_4 i a = (F_row_c a.1 (mkN i), bif m_cmp .eq (F_agreeWith (F_row_c a.1 (mkN i))) 0 then a.2 else (a.2 ||| (1 <<< ((Int32.ofNat i) &&& 31)))) := rfl
      have ha : evC a.1 := by
        have hev := hE.2.2.2.2.1
        unfold evC at *
        rw [f 2 3 rfl]
        intro e he
        rw [f 3 e rfl, f 4 e rfl]
        exact hev e he
      obtain ⟨m, p, R⟩ := rowC_c (s := a.1) (mask := mkN i) (by rw [f 10 0 rfl]; exact h8) ha
      rw [eB]
      generalize F_row_c a.1 (mkN i) = z at *
      obtain ⟨g, -, -, -, -, -, r4⟩ := R
      have g : Fr W_row_c a.1 z := g
      have r4 : OuC_c (inC_c a.1 (mkN i)) 24 z := r4
      rw [inCc, inC_ag (f.ag DJ rfl)] at r4
      have fz : Fr Wo s z := f.tr (g.wk rfl)
      refine ⟨fz, ?_⟩
      have co : COb (inC_a s (mkN i)) z := fun t ht => ⟨(r4 t ht).1, (r4 t ht).2.1, (r4 t ht).2.2.2.2.1⟩
      rw [seenC h.1.2.2.2.1 (fz.ag DS rfl) co, eqB]
      unfold nvF
      cases snB s (inC_a s (mkN i)) <;> rfl
  obtain ⟨f, e⟩ := A _ (Nat.le_refl _)
  rw [eC]
  generalize itr B_cnever_4 0 ((s 2 3).toNatClampNeg) (s, 0) = a at *
  obtain ⟨c, p⟩ := a
  dsimp only at f e ⊢
  obtain ⟨g, eJ⟩ := KG.sd h.1 f
  have mt := mtTold g.1.1 g.2.1
  have en : (F_asTold c 123 11).toNatClampNeg = (s 2 3).toNatClampNeg := by
    rw [mt.2.2.2.2.2 123 11 rfl, f 123 11 rfl, hE.1]
  rw [eM, en]
  have cell : ∀ b, b = 11 ∨ b = 12 ∨ b = 13 ∨ b = 14 → c b = s b := fun b hb => funext (fun j => by rcases hb with rfl | rfl | rfl | rfl <;> exact f _ j rfl)
  have B : ∀ i, i ≤ (s 2 3).toNatClampNeg → (∃ x, MtC c (itr B_neverNow_6 0 i (F_asTold c, 0)).1 (c 11) (c 12) (c 13) (c 14) x) ∧ (itr B_neverNow_6 0 i (F_asTold c, 0)).2 = itr (nvF s) 0 i 0 := by
    intro i
    induction i with
    | zero => exact fun _ => ⟨⟨0, mt⟩, rfl⟩
    | succ i ih =>
      intro hi
      obtain ⟨⟨x, o⟩, e⟩ := ih (by omega)
      rw [itr_0, itr_0, ← e]
      generalize itr B_neverNow_6 0 i (F_asTold c, 0) = a at *
      have o2 := o.wset (1 <<< ((Int32.ofNat i) &&& 31))
      have ov : ovJ (tJ c (c 11) (c 12) (c 13) (c 14) (mkN i)) := ovC g.1.1 g.2.1 (mkN i)
      obtain ⟨r1, r2⟩ := runT g.2.2.1 (by rw [f 10 0 rfl]; exact h8) o2 (bitNv i (by omega)) ov
      obtain ⟨u1, u2⟩ := seenM (J := tJ c (c 11) (c 12) (c 13) (c 14) (mkN i)) g.2.2.2.1 r2.2.2.2.2.2 r1
      have eB : B_neverNow_6 i a = ((F_isSeen (uset a.1 123 17 (1 <<< ((Int32.ofNat i) &&& 31)))).2, a.2 ||| (bif m_cmp .eq (F_isSeen (uset a.1 123 17 (1 <<< ((Int32.ofNat i) &&& 31)))).1 0 then (0 : Int32) else 1 <<< ((Int32.ofNat i) &&& 31))) := rfl
      rw [eB, u1, u2, eqB, snJ (f.ag DS rfl), eJ, cell 11 (by decide), cell 12 (by decide), cell 13 (by decide), cell 14 (by decide)]
      refine ⟨⟨_, by
        have r3 := r2
        rw [cell 11 (by decide), cell 12 (by decide), cell 13 (by decide), cell 14 (by decide)] at r3
        exact r3⟩, ?_⟩
      have eI : inC_a s (mkN i) = tJ s (s 11) (s 12) (s 13) (s 14) (mkN i) := rfl
      unfold nvF
      rw [eI]
      cases snB s (tJ s (s 11) (s 12) (s 13) (s 14) (mkN i)) with
      | true => rfl
      | false => exact or0 _
  obtain ⟨-, e2⟩ := B _ (Nat.le_refl _)
  dsimp only
  rw [e2, ← e]
/-! was -/
def pJ (s : SG) (k v : Nat) : TI := tJ s (s 11) (updN (s 12) k (Int32.ofNat v)) (s 13) (s 14) 255
def oJ (s : SG) (k v : Nat) : TI := tJ s (updN (s 11) k (Int32.ofNat v)) (s 12) (s 13) (s 14) 255
def bF (p : Nat → Bool) (v : Nat) (x : Int32) : Int32 := bif p v then x ||| (1 <<< ((Int32.ofNat v) &&& 31)) else x
theorem psC {s : SG} (h : KG s) (k : Int32) : ∀ n, n ≤ 9 → (∃ x, OtC s (itr (B_possiblePowers_9 k) 1 n (F_take s, 0)).1 (s 11) (updN (s 12) k.toNatClampNeg x) (s 13) (s 14)) ∧ (itr (B_possiblePowers_9 k) 1 n (F_take s, 0)).2 = itr (bF (fun v => snB s (pJ s k.toNatClampNeg v))) 1 n 0 ∧ ∀ u, 1 ≤ u → u ≤ n → snB s (pJ s k.toNatClampNeg u) = true → ∀ t, t < 24 → (itr (B_possiblePowers_9 k) 1 n (F_take s, 0)).1 (98 + u) t = spl' (trip (pJ s k.toNatClampNeg u) (t + 1)) := by
  have h8 := row8 h.1.1 h.2.1.1
  intro n
  induction n with
  | zero => exact fun _ => ⟨⟨s 12 k.toNatClampNeg, by rw [updS]; exact otTake s⟩, rfl, fun u u1 u2 => absurd u1 (by omega)⟩
  | succ n ih =>
    intro hn
    obtain ⟨⟨x, o⟩, e, r⟩ := ih (by omega)
    rw [itr_succ, itr_succ, ← e]
    generalize itr (B_possiblePowers_9 k) 1 n (F_take s, 0) = a at *
    have o2 := o.wpo k.toNatClampNeg (Int32.ofNat (1 + n))
    rw [upd2] at o2
    obtain ⟨r1, r2⟩ := rowO h8 h.2.2.1.2.2.2.2.1 o2
    have eB : B_possiblePowers_9 k (1 + n) a = ((bif m_cmp .eq (F_agreeWith (F_rowOther (uset a.1 55 k.toNatClampNeg (Int32.ofNat (1 + n))))) 0 then (a.2, F_rowOther (uset a.1 55 k.toNatClampNeg (Int32.ofNat (1 + n)))) else ((a.2 ||| (1 <<< ((Int32.ofNat (1 + n)) &&& 31))), (mvs (F_rowOther (uset a.1 55 k.toNatClampNeg (Int32.ofNat (1 + n)))) 60 0 (98 + (1 + n)) 0 24))).2, (bif m_cmp .eq (F_agreeWith (F_rowOther (uset a.1 55 k.toNatClampNeg (Int32.ofNat (1 + n))))) 0 then (a.2, F_rowOther (uset a.1 55 k.toNatClampNeg (Int32.ofNat (1 + n)))) else ((a.2 ||| (1 <<< ((Int32.ofNat (1 + n)) &&& 31))), (mvs (F_rowOther (uset a.1 55 k.toNatClampNeg (Int32.ofNat (1 + n)))) 60 0 (98 + (1 + n)) 0 24))).1) := rfl
    have fr := fr_rowOtherN (uset a.1 55 k.toNatClampNeg (Int32.ofNat (1 + n)))
    rw [eB]
    generalize F_rowOther (uset a.1 55 k.toNatClampNeg (Int32.ofNat (1 + n))) = z at *
    have co : COb (pJ s k.toNatClampNeg (1 + n)) z := r1
    have zk : ∀ u t, 1 ≤ u → u ≤ 9 → z (98 + u) t = a.1 (98 + u) t := fun u t u1 u2 => by
      rw [(fr.ag [(98, 108, none)] rfl) (98 + u) t (inW_r 98 108 (by omega) (by omega) rfl)]
      exact uset_na (by omega)
    rw [seenC h.2.2.2.1 (r2.2.2.2.2.2.ag DS rfl) co, eqB]
    cases q : snB s (pJ s k.toNatClampNeg (1 + n)) with
    | false =>
      rw [lF, kT]
      refine ⟨⟨_, r2⟩, ?_, fun u u1 u2 hu t ht => ?_⟩
      · unfold bF; (try dsimp only)
        rw [q, kF]
      · by_cases w : u = 1 + n
        · rw [w, q] at hu; cases hu
        · dsimp only
          rw [zk u t u1 (by omega)]
          exact r u u1 (by omega) hu t ht
    | true =>
      rw [lT, kF]
      have mn : ∀ b j, b ≠ 98 + (1 + n) → mvs z 60 0 (98 + (1 + n)) 0 24 b j = z b j := fun b j hb => if_neg (fun q => hb q.1)
      refine ⟨⟨Int32.ofNat (1 + n), ?_⟩, ?_, fun u u1 u2 hu t ht => ?_⟩
      · obtain ⟨p1, p2, p3, p4, p5, p6⟩ := r2
        exact ⟨(mn _ _ (by omega)).trans p1, fun k hk => ⟨(mn _ _ (by omega)).trans (p2 k hk).1, (mn _ _ (by omega)).trans (p2 k hk).2⟩, fun t ht => ⟨(mn _ _ (by omega)).trans (p3 t ht).1, (mn _ _ (by omega)).trans (p3 t ht).2⟩, (mn _ _ (by omega)).trans p4, (mn _ _ (by omega)).trans p5, frMvsR 98 108 (by omega) (by omega) rfl p6⟩
      · unfold bF; (try dsimp only)
        rw [q, kT]
      · dsimp only
        by_cases w : u = 1 + n
        · rw [w]
          have e : mvs z 60 0 (98 + (1 + n)) 0 24 (98 + (1 + n)) t = z 60 (0 + (t - 0)) := if_pos ⟨rfl, by omega, by omega⟩
          rw [e, show 0 + (t - 0) = t by omega]
          exact (co t ht).2.1
        · rw [mn _ _ (by omega), zk u t u1 (by omega)]
          exact r u u1 (by omega) hu t ht
theorem pwM {v : Nat} (z : SG) : ∀ n, n ≤ 24 → (∀ t, t < n → itr (B_powersBy_32 v) 0 n z 147 (24 * v + t) = z 140 t) ∧ ∀ b j, ¬ (b = 147 ∧ 24 * v ≤ j ∧ j < 24 * v + n) → itr (B_powersBy_32 v) 0 n z b j = z b j := by
  intro n
  induction n with
  | zero => exact fun _ => ⟨fun t ht => absurd ht (by omega), fun b j _ => rfl⟩
  | succ n ih =>
    intro hn
    obtain ⟨k1, k2⟩ := ih (by omega)
    rw [itr_0]
    generalize itr (B_powersBy_32 v) 0 n z = a at *
    have e : B_powersBy_32 v n a = uset a 147 (24 * v + n) (z 140 n) := by
      unfold B_powersBy_32
      dsimp only
      rw [k2 140 n (by omega)]
    rw [e]
    refine ⟨fun t ht => ?_, fun b j hb => ?_⟩
    · by_cases w : t = n
      · rw [w]; exact uset_eq _ _ _ _
      · rw [uset_nj (by omega)]; exact k1 t (by omega)
    · rw [uset_ne (by omega)]; exact k2 b j (by omega)
theorem v19 {v : Nat} (h1 : 1 ≤ v) (h : v ≤ 9) : 1 ≤ (Int32.ofNat v).toInt ∧ (Int32.ofNat v).toInt ≤ 9 := by
  rw [ofn_int (by omega)]
  omega
theorem psM {c : SG} (g : KG c) (k : Int32) : ∀ n, n ≤ 9 → (∃ x, MtC c (itr (B_powersBy_11 k) 1 n (F_asTold c, 0)).1 (c 11) (updN (c 12) k.toNatClampNeg x) (c 13) (c 14) 0) ∧ (itr (B_powersBy_11 k) 1 n (F_asTold c, 0)).2 = itr (bF (fun v => snB c (pJ c k.toNatClampNeg v))) 1 n 0 ∧ ∀ u, 1 ≤ u → u ≤ n → ∀ t, t < 24 → (itr (B_powersBy_11 k) 1 n (F_asTold c, 0)).1 147 (24 * u + t) = spl' (trip (pJ c k.toNatClampNeg u) (t + 1)) := by
  have h8 := row8 g.1.1 g.2.1.1
  intro n
  induction n with
  | zero => exact fun _ => ⟨⟨c 12 k.toNatClampNeg, by rw [updS]; exact mtTold g.1.1 g.2.1⟩, rfl, fun u u1 u2 => absurd u1 (by omega)⟩
  | succ n ih =>
    intro hn
    obtain ⟨⟨x, o⟩, e, r⟩ := ih (by omega)
    rw [itr_succ, itr_succ, ← e]
    generalize itr (B_powersBy_11 k) 1 n (F_asTold c, 0) = a at *
    have o2 := o.wpo k.toNatClampNeg (Int32.ofNat (1 + n))
    rw [upd2] at o2
    have ov : ovJ (tJ c (c 11) (updN (c 12) k.toNatClampNeg (Int32.ofNat (1 + n))) (c 13) (c 14) 255) := ovT h8 (upd_b (fun j hj => pw19 g.1.1 g.2.1.1 hj) (v19 (by omega) (by omega))) (fun t ht => rt03 g.2.1.2.1 ht)
    obtain ⟨r1, r2⟩ := runT g.2.2.1 h8 o2 bit0_ ov
    obtain ⟨u1, u2⟩ := seenM (J := pJ c k.toNatClampNeg (1 + n)) g.2.2.2.1 r2.2.2.2.2.2 r1
    have eB : B_powersBy_11 k (1 + n) a = (itr (B_powersBy_32 (1 + n)) 0 24 (F_isSeen (uset a.1 127 k.toNatClampNeg (Int32.ofNat (1 + n)))).2, a.2 ||| (bif m_cmp .eq (F_isSeen (uset a.1 127 k.toNatClampNeg (Int32.ofNat (1 + n)))).1 0 then (0 : Int32) else 1 <<< ((Int32.ofNat (1 + n)) &&& 31))) := rfl
    have fr := fr_runs (uset a.1 127 k.toNatClampNeg (Int32.ofNat (1 + n)))
    rw [eB, u1, u2, eqB]
    generalize F_runs (uset a.1 127 k.toNatClampNeg (Int32.ofNat (1 + n))) = z at *
    obtain ⟨w1, w2⟩ := pwM (v := 1 + n) z 24 (Nat.le_refl _)
    generalize itr (B_powersBy_32 (1 + n)) 0 24 z = y at *
    refine ⟨⟨Int32.ofNat (1 + n), ?_⟩, ?_, fun u v1 v2 t ht => ?_⟩
    · obtain ⟨p1, p2, p3, p4, p5, p6⟩ := r2
      refine ⟨(w2 _ _ (by omega)).trans p1, fun k hk => ⟨(w2 _ _ (by omega)).trans (p2 k hk).1, (w2 _ _ (by omega)).trans (p2 k hk).2⟩, fun t ht => ⟨(w2 _ _ (by omega)).trans (p3 t ht).1, (w2 _ _ (by omega)).trans (p3 t ht).2⟩, fun k hk => (w2 _ _ (by omega)).trans (p4 k hk), (w2 _ _ (by omega)).trans p5, p6.tr (fun b j hb => w2 b j (fun q => ?_))⟩
      rw [q.1] at hb
      cases hb
    · dsimp only
      unfold bF; (try dsimp only)
      cases snB c (pJ c k.toNatClampNeg (1 + n)) with
      | true => rfl
      | false => exact or0 _
    · dsimp only
      by_cases w : u = 1 + n
      · rw [w, w1 t ht]
        exact (r1.2.2.2.2.2.2.2 t ht).2.1
      · rw [w2 147 _ (by omega), fr 147 _ rfl, uset_na (by decide)]
        exact r u v1 (by omega) t ht
theorem soC {s : SG} (h : KG s) (k : Int32) : ∀ n, n ≤ 3 → (∃ x, OtC s (itr (B_possibleSorts_9 k) 0 n (F_take s, 0)).1 (updN (s 11) k.toNatClampNeg x) (s 12) (s 13) (s 14)) ∧ (itr (B_possibleSorts_9 k) 0 n (F_take s, 0)).2 = itr (bF (fun v => snB s (oJ s k.toNatClampNeg v))) 0 n 0 := by
  have h8 := row8 h.1.1 h.2.1.1
  intro n
  induction n with
  | zero => exact fun _ => ⟨⟨s 11 k.toNatClampNeg, by rw [updS]; exact otTake s⟩, rfl⟩
  | succ n ih =>
    intro hn
    obtain ⟨⟨x, o⟩, e⟩ := ih (by omega)
    rw [itr_0, itr_0, ← e]
    generalize itr (B_possibleSorts_9 k) 0 n (F_take s, 0) = a at *
    have o2 := o.wso k.toNatClampNeg (Int32.ofNat n)
    rw [upd2] at o2
    obtain ⟨r1, r2⟩ := rowO h8 h.2.2.1.2.2.2.2.1 o2
    have eB : B_possibleSorts_9 k n a = (F_rowOther (uset a.1 54 k.toNatClampNeg (Int32.ofNat n)), bif m_cmp .eq (F_agreeWith (F_rowOther (uset a.1 54 k.toNatClampNeg (Int32.ofNat n)))) 0 then a.2 else (a.2 ||| (1 <<< ((Int32.ofNat n) &&& 31)))) := rfl
    rw [eB]
    generalize F_rowOther (uset a.1 54 k.toNatClampNeg (Int32.ofNat n)) = z at *
    have co : COb (oJ s k.toNatClampNeg n) z := r1
    rw [seenC h.2.2.2.1 (r2.2.2.2.2.2.ag DS rfl) co, eqB]
    refine ⟨⟨_, r2⟩, ?_⟩
    unfold bF; (try dsimp only)
    cases snB s (oJ s k.toNatClampNeg n) <;> rfl
theorem soM {c : SG} (g : KG c) (k : Int32) : ∀ n, n ≤ 3 → (∃ x, MtC c (itr (B_sortsBy_11 k) 0 n (F_asTold c, 0)).1 (updN (c 11) k.toNatClampNeg x) (c 12) (c 13) (c 14) 0) ∧ (itr (B_sortsBy_11 k) 0 n (F_asTold c, 0)).2 = itr (bF (fun v => snB c (oJ c k.toNatClampNeg v))) 0 n 0 := by
  have h8 := row8 g.1.1 g.2.1.1
  intro n
  induction n with
  | zero => exact fun _ => ⟨⟨c 11 k.toNatClampNeg, by rw [updS]; exact mtTold g.1.1 g.2.1⟩, rfl⟩
  | succ n ih =>
    intro hn
    obtain ⟨⟨x, o⟩, e⟩ := ih (by omega)
    rw [itr_0, itr_0, ← e]
    generalize itr (B_sortsBy_11 k) 0 n (F_asTold c, 0) = a at *
    have o2 := o.wso k.toNatClampNeg (Int32.ofNat n)
    rw [upd2] at o2
    have ov : ovJ (tJ c (updN (c 11) k.toNatClampNeg (Int32.ofNat n)) (c 12) (c 13) (c 14) 255) := ovT h8 (fun j hj => pw19 g.1.1 g.2.1.1 hj) (fun t ht => rt03 g.2.1.2.1 ht)
    obtain ⟨r1, r2⟩ := runT g.2.2.1 h8 o2 bit0_ ov
    obtain ⟨u1, u2⟩ := seenM (J := oJ c k.toNatClampNeg n) g.2.2.2.1 r2.2.2.2.2.2 r1
    have eB : B_sortsBy_11 k n a = ((F_isSeen (uset a.1 126 k.toNatClampNeg (Int32.ofNat n))).2, a.2 ||| (bif m_cmp .eq (F_isSeen (uset a.1 126 k.toNatClampNeg (Int32.ofNat n))).1 0 then (0 : Int32) else 1 <<< ((Int32.ofNat n) &&& 31))) := rfl
    rw [eB, u1, u2, eqB]
    refine ⟨⟨_, r2⟩, ?_⟩
    dsimp only
    unfold bF; (try dsimp only)
    cases snB c (oJ c k.toNatClampNeg n) with
    | true => rfl
    | false => exact or0 _
theorem sdJ {s c : SG} (f : Fr Wo s c) (g : tJ c = tJ s) (k : Nat) : (fun v => snB c (pJ c k v)) = (fun v => snB s (pJ s k v)) ∧ (fun v => snB c (oJ c k v)) = (fun v => snB s (oJ s k v)) ∧ pJ c k = pJ s k := by
  have cell : ∀ b, b = 11 ∨ b = 12 ∨ b = 13 ∨ b = 14 → c b = s b := fun b hb => funext (fun j => by rcases hb with rfl | rfl | rfl | rfl <;> exact f _ j rfl)
  have e1 : pJ c k = pJ s k := by
    funext v
    unfold pJ
    rw [g, cell 11 (by decide), cell 12 (by decide), cell 13 (by decide), cell 14 (by decide)]
  have e2 : oJ c k = oJ s k := by
    funext v
    unfold oJ
    rw [g, cell 11 (by decide), cell 12 (by decide), cell 13 (by decide), cell 14 (by decide)]
  rw [e1, e2, snJ (f.ag DS rfl)]
  exact ⟨rfl, rfl, rfl⟩
theorem rdS {s c : SG} (h : KG s) (f : Fr Wo s c) (k : Nat) : KG (F_reads c) ∧ (fun v => snB (F_reads c) (pJ (F_reads c) k v)) = (fun v => snB s (pJ s k v)) ∧ (fun v => snB (F_reads c) (oJ (F_reads c) k v)) = (fun v => snB s (oJ s k v)) ∧ pJ (F_reads c) k = pJ s k := by
  obtain ⟨g, eJ⟩ := KG.sd h f
  obtain ⟨a1, a2, a3⟩ := sdJ f eJ k
  have fr := fr_reads c
  generalize F_reads c = d at *
  have cell : ∀ b, b = 11 ∨ b = 12 ∨ b = 13 ∨ b = 14 → d b = c b := fun b hb => funext (fun j => by rcases hb with rfl | rfl | rfl | rfl <;> exact fr _ j rfl)
  have eJ2 : tJ d = tJ c := by
    funext so po ra ru mask
    unfold tJ
    rw [befC_ag (fr.ag DJ rfl) mask, fr 10 0 rfl, fr 10 5 rfl, fr 10 6 rfl]
  have e1 : pJ d k = pJ c k := by
    funext v
    unfold pJ
    rw [eJ2, cell 11 (by decide), cell 12 (by decide), cell 13 (by decide), cell 14 (by decide)]
  have e2 : oJ d k = oJ c k := by
    funext v
    unfold oJ
    rw [eJ2, cell 11 (by decide), cell 12 (by decide), cell 13 (by decide), cell 14 (by decide)]
  rw [e1, e2, snJ (fr.ag DS rfl)]
  exact ⟨g.ag (fr.ag DG rfl), a1, a2, a3⟩
theorem mkF {α β : Type} (a : α) (b : β) : (a, b).1 = a := rfl
theorem mkS {α β : Type} (a : α) (b : β) : (a, b).2 = b := rfl
theorem itr9 {α : Type} (f : Nat → α → α) (a : α) : itr f 1 (10 - 1) a = itr f 1 9 a := rfl
theorem pwE (c : SG) (k : Int32) : F_powersBy c k = ((itr (B_powersBy_11 k) 1 9 (F_asTold c, 0)).2, (uset (itr (B_powersBy_11 k) 1 9 (F_asTold c, 0)).1 127 k.toNatClampNeg (F_asTold c 127 k.toNatClampNeg))) := by
  have e : F_powersBy c k = ((itr (B_powersBy_11 k) 1 (10 - 1) (F_asTold c, 0)).2, (uset (itr (B_powersBy_11 k) 1 (10 - 1) (F_asTold c, 0)).1 127 k.toNatClampNeg (F_asTold c 127 k.toNatClampNeg))) := rfl
  rw [e, itr9]
theorem ppE (s : SG) (k : Int32) : F_possiblePowers s k = ((itr (B_possiblePowers_9 k) 1 9 (F_take s, 0)).2, (itr (B_possiblePowers_9 k) 1 9 (F_take s, 0)).1) := by
  have e : F_possiblePowers s k = ((itr (B_possiblePowers_9 k) 1 (10 - 1) (F_take s, 0)).2, (itr (B_possiblePowers_9 k) 1 (10 - 1) (F_take s, 0)).1) := rfl
  rw [e, itr9]
theorem was_s {s : SG} (h : KG s) (k : Int32) : Fr Wo s (F_possibleSorts s k).2 ∧ (F_possibleSorts s k).1 = (F_sortsBy (F_reads (F_possibleSorts s k).2) k).1 := by
  have eS : ∀ c : SG, (F_sortsBy c k).1 = (itr (B_sortsBy_11 k) 0 3 (F_asTold c, 0)).2 := fun c => by
    dsimp only [F_sortsBy]
  have eCS : F_possibleSorts s k = ((itr (B_possibleSorts_9 k) 0 3 (F_take s, 0)).2, (itr (B_possibleSorts_9 k) 0 3 (F_take s, 0)).1) := by
    dsimp only [F_possibleSorts]
  obtain ⟨⟨x, o⟩, e⟩ := soC h k 3 (Nat.le_refl _)
  rw [eCS]
  generalize itr (B_possibleSorts_9 k) 0 3 (F_take s, 0) = a at *
  have f := o.2.2.2.2.2
  obtain ⟨g2, -, b2, -⟩ := rdS h f k.toNatClampNeg
  dsimp only
  refine ⟨f, ?_⟩
  rw [eS, (soM g2 k 3 (Nat.le_refl _)).2, b2, e]
theorem pwX {d : SG} (g : KG d) (k : Int32) : (F_powersBy d k).1 = itr (bF fun v => snB d (pJ d k.toNatClampNeg v)) 1 9 0 := by
  rw [pwE, mkF]
  exact (psM g k 9 (Nat.le_refl _)).2.1
theorem ppX {s : SG} (h : KG s) (k : Int32) : Fr Wo s (F_possiblePowers s k).2 := by
  rw [ppE, mkS]
  obtain ⟨x, o⟩ := (psC h k 9 (Nat.le_refl _)).1
  exact o.2.2.2.2.2
theorem ppY {s : SG} (h : KG s) (k : Int32) : (F_possiblePowers s k).1 = itr (bF fun v => snB s (pJ s k.toNatClampNeg v)) 1 9 0 := by
  rw [ppE, mkF]
  exact (psC h k 9 (Nat.le_refl _)).2.1
theorem was_p {s : SG} (h : KG s) (k : Int32) : Fr Wo s (F_possiblePowers s k).2 ∧ (F_possiblePowers s k).1 = (F_powersBy (F_reads (F_possiblePowers s k).2) k).1 := by
  have f := ppX h k
  obtain ⟨g2, b1, -, -⟩ := rdS h f k.toNatClampNeg
  refine ⟨f, ?_⟩
  rw [ppY h k, pwX g2 k, b1]
theorem was_M {c : SG} (g : KG c) (k wh : Int32) : (F_was c k wh).1 = bif bl k (c 10 0) then (bif bl wh 2 then (bif m_cmp .ne wh 0 then (F_sortsBy (F_reads c) k).1 else (F_powersBy (F_reads c) k).1) else -2) else -2 := by
  obtain ⟨i1, i2⟩ := isRw g.1.1 g.2.1 k
  have eM : F_was c k wh = bif m_cmp .eq (F_isRower c k).1 0 then ((-2 : Int32), (F_isRower c k).2) else (bif m_cmp .eq (F_isTwo (F_isRower c k).2 wh) 0 then ((-2 : Int32), (F_isRower c k).2) else (bif m_cmp .ne wh 0 then (F_sortsBy (F_isRower c k).2 k) else (F_powersBy (F_isRower c k).2 k))) := by
    dsimp only [F_was]
  rw [eM, i1, i2, is2_e]
  cases bl k (c 10 0) with
  | false => rw [lF, kT, kF]
  | true =>
    rw [lT, kF, kT]
    cases bl wh 2 with
    | false => rw [lF, kT, kF]
    | true =>
      rw [lT, kF, kT]
      cases m_cmp .ne wh 0 with
      | false => rw [kF, kF]
      | true => rw [kT, kT]
theorem was_C (s : SG) (k wh : Int32) : F_cwas s k wh = bif bl k (s 10 0) then (bif bl wh 2 then (bif m_cmp .ne wh 0 then F_possibleSorts s k else F_possiblePowers s k) else ((-2), s)) else ((-2), s) := by
  dsimp only [F_cwas]
  rw [cisR_e, bl_n]
  cases bl k (s 10 0) with
  | false => rw [lF, kT, kF]
  | true => rw [lT, kF, kT]
theorem q_was {s : SG} (h : KF s) (k wh : Int32) : QK (F_cwas s k wh) (fun y => F_was y k wh) := by
  refine ⟨(kf_was h k wh).ag ((fr_was _ k wh).ag DF rfl), ?_⟩
  have eC := was_C s k wh
  cases q : bl k (s 10 0) with
  | false =>
    rw [q, kF] at eC
    rw [eC]
    dsimp only
    rw [was_M h.1, q, kF]
  | true =>
    cases q2 : bl wh 2 with
    | false =>
      rw [q, q2, kT, kF] at eC
      rw [eC]
      dsimp only
      rw [was_M h.1, q, q2, kT, kF]
    | true =>
      cases w : m_cmp .ne wh 0 with
      | true =>
        rw [q, q2, w, kT, kT, kT] at eC
        rw [eC]
        obtain ⟨f, e⟩ := was_s h.1 k
        generalize F_possibleSorts s k = a at *
        dsimp only
        rw [was_M (KG.sd h.1 f).1, f 10 0 rfl, q, q2, w, kT, kT, kT]
        exact e
      | false =>
        rw [q, q2, w, kT, kT, kF] at eC
        rw [eC]
        obtain ⟨f, e⟩ := was_p h.1 k
        generalize F_possiblePowers s k = a at *
        dsimp only
        rw [was_M (KG.sd h.1 f).1, f 10 0 rfl, q, q2, w, kT, kT, kF]
        exact e
