section
/-! swap: two change seats -/
def swN (a b k : Nat) : Nat := if k = a then b else if k = b then a else k
theorem swsw {a b : Nat} (k : Nat) : swN a b (swN a b k) = k := by
  unfold swN
  by_cases h1 : k = a
  · rw [if_pos h1]
    by_cases h2 : b = a
    · rw [if_pos h2]; omega
    · rw [if_neg h2, if_pos rfl]; omega
  · rw [if_neg h1]
    by_cases h2 : k = b
    · rw [if_pos h2, if_pos rfl]; omega
    · rw [if_neg h2, if_neg h1, if_neg h2]
theorem swlt {a b n : Nat} (ha : a < n) (hb : b < n) {k : Nat} (hk : k < n) : swN a b k < n := by
  unfold swN
  by_cases h1 : k = a
  · rw [if_pos h1]; exact hb
  · rw [if_neg h1]
    by_cases h2 : k = b
    · rw [if_pos h2]; exact ha
    · rw [if_neg h2]; exact hk
/-! sums -/
def smS (f : NI) (n : Nat) : Int32 := itr (fun k x => x + f k) 0 n 0
theorem smS_s (f : NI) (n : Nat) : smS f (n + 1) = smS f n + f n := itr_0 _ _ _
theorem smS_c {f g : NI} (n : Nat) (h : ∀ k, k < n → f k = g k) : smS f n = smS g n := by
  induction n with
  | zero => unfold smS; rw [itr_z, itr_z]
  | succ n ih => rw [smS_s, smS_s, ih (fun k hk => h k (by omega)), h n (by omega)]
theorem smS_u (f : NI) {a : Nat} (v : Int32) (n : Nat) : a < n → smS (updN f a v) n + f a = smS f n + v := by
  induction n with
  | zero => exact fun h => absurd h (by omega)
  | succ n ih =>
    intro h
    rw [smS_s, smS_s]
    by_cases w : a = n
    · have e : smS (updN f a v) n = smS f n := smS_c n (fun k hk => if_neg (by omega))
      have e2 : updN f a v n = v := if_pos w.symm
      rw [e, e2, w, Int32.add_assoc, Int32.add_assoc, Int32.add_comm v (f n)]
    · have e2 : updN f a v n = f n := if_neg (by omega)
      rw [e2, Int32.add_assoc, Int32.add_comm (f n) (f a), ← Int32.add_assoc, ih (by omega), Int32.add_assoc, Int32.add_assoc, Int32.add_comm v (f n)]
theorem smS_w (f : NI) {a b n : Nat} (ha : a < n) (hb : b < n) (hab : a ≠ b) : smS (fun k => f (swN a b k)) n = smS f n := by
  have e : smS (fun k => f (swN a b k)) n = smS (updN (updN f a (f b)) b (f a)) n := smS_c n (fun k _ => by
    unfold updN swN
    by_cases h2 : k = b
    · have hk : ¬ k = a := by omega
      rw [if_neg hk, if_pos h2, if_pos h2]
    · by_cases h1 : k = a
      · rw [if_pos h1, if_neg h2, if_pos h1]
      · rw [if_neg h1, if_neg h2, if_neg h2, if_neg h1])
  have u1 := smS_u f (f b) n ha
  have u2 := smS_u (updN f a (f b)) (f a) n hb
  have eb : updN f a (f b) b = f b := if_neg (fun q => hab q.symm)
  rw [eb, u1] at u2
  rw [e]
  have c := congrArg (fun x => x - f b) u2
  rw [Int32.add_sub_cancel, Int32.add_sub_cancel] at c
  exact c
def lfF (J : TI) (t : Nat) (x : TS) (k : Nat) : Int32 := bif m_cmp .ne (jse J k - jse J k / 2 * 2) 0 then 0 else pul J t x k
def rfF (J : TI) (t : Nat) (x : TS) (k : Nat) : Int32 := bif m_cmp .ne (jse J k - jse J k / 2 * 2) 0 then pul J t x k else 0
theorem lrs_sm (J : TI) (t : Nat) (x : TS) (n : Nat) : lrs J t x n = (smS (lfF J t x) n, smS (rfF J t x) n) := by
  induction n with
  | zero =>
    unfold lrs smS
    rw [itr_z, itr_z, itr_z]
  | succ n ih =>
    have e1 : lrs J t x (n + 1) = lstep J t x n (lrs J t x n) := itr_0 _ _ _
    rw [e1, ih, smS_s, smS_s]
    unfold lstep lfF rfF
    cases m_cmp .ne (jse J n - jse J n / 2 * 2) 0 with
    | true => rw [kT, kT, kT, Int32.add_zero]
    | false => rw [kF, kF, kF, Int32.add_zero]
/-! two trips: the rowers' places changed, or what they are -/
def seJ (s : SG) (a b : Nat) : TI := ((s 10 0).toNatClampNeg, s 11, s 12, fun k => Int32.ofNat (swN a b k), s 13, s 14, s 10 5, s 10 6, befC s 255)
def wsJ (s : SG) (a b : Nat) : TI := tJ s (fun k => s 11 (swN a b k)) (fun k => s 12 (swN a b k)) (s 13) (s 14) 255
def RW_ (n a b : Nat) (x y : TS) : Prop := sme x = sme y ∧ spl' x = spl' y ∧ sth x = sth y ∧ ∀ k, k < n → smn x (swN a b k) = smn y k ∧ ssm x (swN a b k) = ssm y k
section SWP
variable {s : SG} {a b t : Nat} {x y : TS}
theorem pon_w (e : RW_ (s 10 0).toNatClampNeg a b x y) (k : Nat) : pon (wsJ s a b) t x (swN a b k) = pon (seJ s a b) t y k := by
  unfold pon
  rw [e.2.2.1]
  rfl
theorem pul_w (e : RW_ (s 10 0).toNatClampNeg a b x y) {k : Nat} (hk : k < (s 10 0).toNatClampNeg) : pul (wsJ s a b) t x (swN a b k) = pul (seJ s a b) t y k := by
  unfold pul
  rw [pon_w e k, (e.2.2.2 k hk).1]
  have e1 : jso (wsJ s a b) (swN a b k) = jso (seJ s a b) k := by show s 11 (swN a b (swN a b k)) = s 11 k; rw [swsw]
  have e2 : jpo (wsJ s a b) (swN a b k) = jpo (seJ s a b) k := by show s 12 (swN a b (swN a b k)) = s 12 k; rw [swsw]
  rw [e1, e2]
theorem lrs_w (ha : a < (s 10 0).toNatClampNeg) (hb : b < (s 10 0).toNatClampNeg) (hab : a ≠ b) (e : RW_ (s 10 0).toNatClampNeg a b x y) : lrs (wsJ s a b) t x (jn (wsJ s a b)) = lrs (seJ s a b) t y (jn (seJ s a b)) := by
  have n1 : jn (wsJ s a b) = (s 10 0).toNatClampNeg := rfl
  have n2 : jn (seJ s a b) = (s 10 0).toNatClampNeg := rfl
  rw [n1, n2, lrs_sm, lrs_sm, ← smS_w (lfF (wsJ s a b) t x) ha hb hab, ← smS_w (rfF (wsJ s a b) t x) ha hb hab]
  have l : ∀ k, k < (s 10 0).toNatClampNeg → lfF (wsJ s a b) t x (swN a b k) = lfF (seJ s a b) t y k := fun k hk => by
    unfold lfF
    rw [pul_w e hk]
    rfl
  have r : ∀ k, k < (s 10 0).toNatClampNeg → rfF (wsJ s a b) t x (swN a b k) = rfF (seJ s a b) t y k := fun k hk => by
    unfold rfF
    rw [pul_w e hk]
    rfl
  rw [smS_c (f := fun k => lfF (wsJ s a b) t x (swN a b k)) _ l, smS_c (f := fun k => rfF (wsJ s a b) t x (swN a b k)) _ r]
theorem beh_w (ha : a < (s 10 0).toNatClampNeg) (hb : b < (s 10 0).toNatClampNeg) (hab : a ≠ b) (e : RW_ (s 10 0).toNatClampNeg a b x y) : beh (wsJ s a b) t x = beh (seJ s a b) t y := by
  unfold beh
  rw [lrs_w ha hb hab e, e.2.1]
  rfl
theorem way_w (ha : a < (s 10 0).toNatClampNeg) (hb : b < (s 10 0).toNatClampNeg) (hab : a ≠ b) (e : RW_ (s 10 0).toNatClampNeg a b x y) : way (wsJ s a b) t x = way (seJ s a b) t y := by
  unfold way
  rw [lrs_w ha hb hab e]
  rfl
theorem tst_w (ha : a < (s 10 0).toNatClampNeg) (hb : b < (s 10 0).toNatClampNeg) (hab : a ≠ b) (e : RW_ (s 10 0).toNatClampNeg a b x y) : RW_ (s 10 0).toNatClampNeg a b (tst (wsJ s a b) t x) (tst (seJ s a b) t y) := by
  have g : grd (wsJ s a b) t x = grd (seJ s a b) t y := by unfold grd; rw [beh_w ha hb hab e]
  have m : me' (wsJ s a b) t x = me' (seJ s a b) t y := by unfold me'; rw [g, way_w ha hb hab e, e.1]
  have p : pl' (wsJ s a b) t x = pl' (seJ s a b) t y := by unfold pl'; rw [beh_w ha hb hab e]
  have ho : jho (wsJ s a b) = jho (seJ s a b) := rfl
  refine ⟨?_, ?_, ?_, fun k hk => ⟨?_, ?_⟩⟩
  · show (bif m_cmp .ne (sth x) (-1) then sme x else me' (wsJ s a b) t x) = (bif m_cmp .ne (sth y) (-1) then sme y else me' (seJ s a b) t y)
    rw [m, e.2.2.1, e.1]
  · show (bif m_cmp .ne (sth x) (-1) then spl' x else pl' (wsJ s a b) t x) = (bif m_cmp .ne (sth y) (-1) then spl' y else pl' (seJ s a b) t y)
    rw [p, e.2.2.1, e.2.1]
  · show (bif m_cmp .ne (sth x) (-1) then sth x else (bif m_cmp .lt (me' (wsJ s a b) t x) (jho (wsJ s a b)) then -1 else Int32.ofNat t)) = (bif m_cmp .ne (sth y) (-1) then sth y else (bif m_cmp .lt (me' (seJ s a b) t y) (jho (seJ s a b)) then -1 else Int32.ofNat t))
    rw [m, e.2.2.1, ho]
  · show mn' (wsJ s a b) t x (swN a b k) = mn' (seJ s a b) t y k
    unfold mn'
    rw [pon_w e k, (e.2.2.2 k hk).1]
  · show sm' (wsJ s a b) t x (swN a b k) = sm' (seJ s a b) t y k
    unfold sm'
    rw [pon_w e k, pul_w e hk, (e.2.2.2 k hk).2]
theorem trip_w (ha : a < (s 10 0).toNatClampNeg) (hb : b < (s 10 0).toNatClampNeg) (hab : a ≠ b) : ∀ t, RW_ (s 10 0).toNatClampNeg a b (trip (wsJ s a b) t) (trip (seJ s a b) t)
  | 0 => ⟨rfl, rfl, rfl, fun _ _ => ⟨rfl, rfl⟩⟩
  | t + 1 => tst_w ha hb hab (trip_w ha hb hab t)
end SWP
def mtS (s : SG) (a b : Nat) : Int32 := sme (trip (seJ s a b) 24)
theorem wo_cell {s c : SG} (f : Fr Wo s c) : ∀ b, b = 11 ∨ b = 12 ∨ b = 13 ∨ b = 14 → c b = s b := fun b hb => funext (fun j => by rcases hb with rfl | rfl | rfl | rfl <;> exact f _ j rfl)
/-- the class: two changed -/
theorem msC {s w : SG} (h : KG s) (f : Fr Wo s w) {a b : Nat} (hab : a < b) (hb : b < (s 10 0).toNatClampNeg) : (F_metresSwapped w (Int32.ofNat a) (Int32.ofNat b)).1 = mtS s a b ∧ Fr Wo s (F_metresSwapped w (Int32.ofNat a) (Int32.ofNat b)).2 := by
  have h8 := row8 h.1.1 h.2.1.1
  obtain ⟨g, eJ⟩ := KG.sd h f
  have o := otTake w
  have ca : (Int32.ofNat a).toNatClampNeg = a := ofn_c (by omega)
  have cb : (Int32.ofNat b).toNatClampNeg = b := ofn_c (by omega)
  have eF : F_metresSwapped w (Int32.ofNat a) (Int32.ofNat b) = (F_rowOther (uset (uset (uset (uset (F_take w) 54 (Int32.ofNat a).toNatClampNeg (F_take w 11 (Int32.ofNat b).toNatClampNeg)) 55 (Int32.ofNat a).toNatClampNeg (F_take w 12 (Int32.ofNat b).toNatClampNeg)) 54 (Int32.ofNat b).toNatClampNeg (F_take w 11 (Int32.ofNat a).toNatClampNeg)) 55 (Int32.ofNat b).toNatClampNeg (F_take w 12 (Int32.ofNat a).toNatClampNeg)) 59 23, F_rowOther (uset (uset (uset (uset (F_take w) 54 (Int32.ofNat a).toNatClampNeg (F_take w 11 (Int32.ofNat b).toNatClampNeg)) 55 (Int32.ofNat a).toNatClampNeg (F_take w 12 (Int32.ofNat b).toNatClampNeg)) 54 (Int32.ofNat b).toNatClampNeg (F_take w 11 (Int32.ofNat a).toNatClampNeg)) 55 (Int32.ofNat b).toNatClampNeg (F_take w 12 (Int32.ofNat a).toNatClampNeg))) := rfl
  rw [eF, ca, cb]
  have o2 := (((o.wso a (F_take w 11 b)).wpo a (F_take w 12 b)).wso b (F_take w 11 a)).wpo b (F_take w 12 a)
  have ft := fr_take w
  have e11 : ∀ k, F_take w 11 k = w 11 k := fun k => ft 11 k rfl
  have e12 : ∀ k, F_take w 12 k = w 12 k := fun k => ft 12 k rfl
  have o3 := o2.cg (so2 := fun k => w 11 (swN a b k)) (po2 := fun k => w 12 (swN a b k)) (ra2 := w 13) (ru2 := w 14) (fun k => by
    rw [e11, e11]
    unfold updN swN
    by_cases h2 : k = b
    · rw [if_pos h2, if_neg (by omega), if_pos h2]
    · rw [if_neg h2]
      by_cases h1 : k = a
      · rw [if_pos h1, if_pos h1]
      · rw [if_neg h1, if_neg h1, if_neg h2]) (fun k => by
    rw [e12, e12]
    unfold updN swN
    by_cases h2 : k = b
    · rw [if_pos h2, if_neg (by omega), if_pos h2]
    · rw [if_neg h2]
      by_cases h1 : k = a
      · rw [if_pos h1, if_pos h1]
      · rw [if_neg h1, if_neg h1, if_neg h2]) (fun _ => rfl) (fun _ => rfl)
  obtain ⟨r1, r2⟩ := rowO (by rw [f 10 0 rfl]; exact h8) g.2.2.1.2.2.2.2.1 o3
  generalize F_rowOther (uset (uset (uset (uset (F_take w) 54 a (F_take w 11 b)) 55 a (F_take w 12 b)) 54 b (F_take w 11 a)) 55 b (F_take w 12 a)) = z at *
  rw [mkF, mkS]
  refine ⟨?_, f.tr r2.2.2.2.2.2⟩
  have e59 : z 59 23 = sme (trip (tJ w (fun k => w 11 (swN a b k)) (fun k => w 12 (swN a b k)) (w 13) (w 14) 255) 24) := (r1 23 (by decide)).1
  have c := wo_cell f
  rw [eJ, c 11 (by decide), c 12 (by decide), c 13 (by decide), c 14 (by decide)] at e59
  rw [e59]
  exact (trip_w (s := s) (by omega) hb (by omega) 24).1
/-- the model: two seats changed -/
theorem msM {c z : SG} (g : KG c) (o : MtC c z (c 11) (c 12) (c 13) (c 14) 0) {a b : Nat} (hab : a < b) (hb : b < (c 10 0).toNatClampNeg) : F_runs (uset (uset z 135 a (Int32.ofNat b)) 135 b (Int32.ofNat a)) 123 19 = mtS c a b ∧ MtC c (uset (uset (F_runs (uset (uset z 135 a (Int32.ofNat b)) 135 b (Int32.ofNat a))) 135 a (Int32.ofNat a)) 135 b (Int32.ofNat b)) (c 11) (c 12) (c 13) (c 14) 0 := by
  have h8 := row8 g.1.1 g.2.1.1
  obtain ⟨o1, o2, o3, o4, o5, f⟩ := o
  have fw : Fr [(135, 135, none)] z (uset (uset z 135 a (Int32.ofNat b)) 135 b (Int32.ofNat a)) := Fr.uset rfl (Fr.uset rfl (Fr.rf _ _))
  have w5 : ∀ k, k < 8 → uset (uset z 135 a (Int32.ofNat b)) 135 b (Int32.ofNat a) 135 k = Int32.ofNat (swN a b k) := fun k hk => by
    unfold swN
    by_cases h2 : k = b
    · rw [if_neg (by omega), if_pos h2, h2]; exact uset_eq _ _ _ _
    · rw [uset_nj h2]
      by_cases h1 : k = a
      · rw [if_pos h1, h1]; exact uset_eq _ _ _ _
      · rw [if_neg h1, if_neg h2, uset_nj h1]; exact o4 k hk
  generalize uset (uset z 135 a (Int32.ofNat b)) 135 b (Int32.ofNat a) = w at *
  have f2 : Fr W_asTold c w := f.tr (fw.wk rfl)
  have E : eqJ (inM w) (seJ c a b) := by
    have en : jn (inM w) = (c 10 0).toNatClampNeg := by show (w 123 2).toNatClampNeg = _; rw [fw 123 2 rfl, o1]
    refine ⟨en, fun k hk => ?_, fun t ht => ?_, ?_, ?_⟩
    · rw [en] at hk
      exact ⟨(fw 126 k rfl).trans (o2 k hk).1, (fw 127 k rfl).trans (o2 k hk).2, w5 k (by omega)⟩
    · exact ⟨(fw 133 t rfl).trans (o3 t ht).1, (fw 134 t rfl).trans (o3 t ht).2, befT g.2.2.1 f2 ((fw 123 17 rfl).trans o5) hb0 t⟩
    · show w 123 9 = c 10 5
      rw [f2 123 9 rfl]
      exact g.2.2.1.2.2.2.2.2.1.symm
    · show w 123 10 = c 10 6
      rw [f2 123 10 rfl]
      exact g.2.2.1.2.2.2.2.2.2.symm
  have ov : ovJ (seJ c a b) := ovJ_of h8 (fun k hk => pw19 g.1.1 g.2.1.1 hk) (fun t ht => rt03 g.2.1.2.1 ht)
  obtain ⟨r, q⟩ := runMO (z := w) (by rw [fw 123 2 rfl, o1]; exact h8) (fun k hk => ⟨swN a b k, swlt (n := 8) (by omega) (by omega) hk, w5 k hk⟩) E ov
  generalize F_runs w = y at *
  refine ⟨r.1, ?_⟩
  have fy : Fr [(135, 135, none)] y (uset (uset y 135 a (Int32.ofNat a)) 135 b (Int32.ofNat b)) := Fr.uset rfl (Fr.uset rfl (Fr.rf _ _))
  have y5 : ∀ k, k < 8 → uset (uset y 135 a (Int32.ofNat a)) 135 b (Int32.ofNat b) 135 k = Int32.ofNat k := fun k hk => by
    by_cases h2 : k = b
    · rw [h2]; exact uset_eq _ _ _ _
    · rw [uset_nj h2]
      by_cases h1 : k = a
      · rw [h1]; exact uset_eq _ _ _ _
      · rw [uset_nj h1, q 135 k rfl, w5 k hk]
        unfold swN
        rw [if_neg h1, if_neg h2]
  generalize uset (uset y 135 a (Int32.ofNat a)) 135 b (Int32.ofNat b) = v at *
  have fv : Fr W_asTold w v := (q.wk rfl).tr (fy.wk rfl)
  exact ⟨(fy 123 2 rfl).trans ((q 123 2 rfl).trans ((fw 123 2 rfl).trans o1)), fun k hk => ⟨(fy 126 k rfl).trans ((q 126 k rfl).trans ((fw 126 k rfl).trans (o2 k hk).1)), (fy 127 k rfl).trans ((q 127 k rfl).trans ((fw 127 k rfl).trans (o2 k hk).2))⟩, fun t ht => ⟨(fy 133 t rfl).trans ((q 133 t rfl).trans ((fw 133 t rfl).trans (o3 t ht).1)), (fy 134 t rfl).trans ((q 134 t rfl).trans ((fw 134 t rfl).trans (o3 t ht).2))⟩, y5, (fy 123 17 rfl).trans ((q 123 17 rfl).trans ((fw 123 17 rfl).trans o5)), f2.tr fv⟩
/-! the farthest of all pairs -/
def swF (s : SG) (a b : Nat) (x : Option (Nat × Nat) × Int32) : Option (Nat × Nat) × Int32 := bif m_cmp .le (mtS s a b) x.2 then x else (some (a, b), mtS s a b)
def swI (s : SG) (n a m : Nat) (x : Option (Nat × Nat) × Int32) : Option (Nat × Nat) × Int32 := itr (swF s a) (a + 1) m x
def swO (s : SG) (n i : Nat) : Option (Nat × Nat) × Int32 := itr (fun a x => swI s n a (n - (a + 1)) x) 0 i (none, -1)
def enC (x : Option (Nat × Nat)) : Int32 × Int32 := match x with | none => (-1, -1) | some (a, b) => (Int32.ofNat a, Int32.ofNat b)
def enM (x : Option (Nat × Nat)) : Int32 := match x with | none => -1 | some (a, b) => (8 * Int32.ofNat a) + Int32.ofNat b
def okX (n : Nat) (x : Option (Nat × Nat) × Int32) : Prop := (∀ a b, x.1 = some (a, b) → a < b ∧ b < n) ∧ (x.1 = none → x.2 = -1)
theorem swF_ok {s : SG} {n a b : Nat} {x : Option (Nat × Nat) × Int32} (h : okX n x) (hab : a < b) (hb : b < n) : okX n (swF s a b x) := by
  unfold swF
  cases m_cmp .le (mtS s a b) x.2 with
  | true => rw [kT]; exact h
  | false =>
    rw [kF]
    exact ⟨fun c d e => (by cases e; exact ⟨hab, hb⟩), fun e => (by cases e)⟩
theorem swC {s : SG} (h : KG s) {a : Nat} (ha : a < (s 10 0).toNatClampNeg) (p : SG × Int32 × Int32 × Int32) (x : Option (Nat × Nat) × Int32) (f : Fr Wo s p.1) (e1 : (p.2.1, p.2.2.1) = enC x.1) (e2 : p.2.2.2 = x.2) : ∀ m, a + 1 + m ≤ (s 10 0).toNatClampNeg → Fr Wo s (itr (B_cswap_23 a) (a + 1) m p).1 ∧ ((itr (B_cswap_23 a) (a + 1) m p).2.1, (itr (B_cswap_23 a) (a + 1) m p).2.2.1) = enC (itr (swF s a) (a + 1) m x).1 ∧ (itr (B_cswap_23 a) (a + 1) m p).2.2.2 = (itr (swF s a) (a + 1) m x).2 := by
  intro m
  induction m with
  | zero => exact fun _ => ⟨f, e1, e2⟩
  | succ m ih =>
    intro hm
    obtain ⟨i1, i2, i3⟩ := ih (by omega)
    rw [itr_succ, itr_succ]
    generalize itr (B_cswap_23 a) (a + 1) m p = u at *
    generalize itr (swF s a) (a + 1) m x = v at *
    obtain ⟨m1, m2⟩ := msC h i1 (a := a) (b := a + 1 + m) (by omega) (by omega)
    have eB : B_cswap_23 a (a + 1 + m) u = ((F_metresSwapped u.1 (Int32.ofNat a) (Int32.ofNat (a + 1 + m))).2, (bif m_cmp .le (F_metresSwapped u.1 (Int32.ofNat a) (Int32.ofNat (a + 1 + m))).1 u.2.2.2 then (u.2.1, u.2.2.1, u.2.2.2) else (Int32.ofNat a, Int32.ofNat (a + 1 + m), (F_metresSwapped u.1 (Int32.ofNat a) (Int32.ofNat (a + 1 + m))).1)).1, (bif m_cmp .le (F_metresSwapped u.1 (Int32.ofNat a) (Int32.ofNat (a + 1 + m))).1 u.2.2.2 then (u.2.1, u.2.2.1, u.2.2.2) else (Int32.ofNat a, Int32.ofNat (a + 1 + m), (F_metresSwapped u.1 (Int32.ofNat a) (Int32.ofNat (a + 1 + m))).1)).2.1, (bif m_cmp .le (F_metresSwapped u.1 (Int32.ofNat a) (Int32.ofNat (a + 1 + m))).1 u.2.2.2 then (u.2.1, u.2.2.1, u.2.2.2) else (Int32.ofNat a, Int32.ofNat (a + 1 + m), (F_metresSwapped u.1 (Int32.ofNat a) (Int32.ofNat (a + 1 + m))).1)).2.2) := rfl
    rw [eB, m1]
    generalize F_metresSwapped u.1 (Int32.ofNat a) (Int32.ofNat (a + 1 + m)) = y at *
    refine ⟨m2, ?_⟩
    unfold swF
    rw [i3]
    generalize mtS s a (a + 1 + m) = d
    cases m_cmp .le d v.2 with
    | true =>
      dsimp only
      rw [kT, kT]
      exact ⟨i2, rfl⟩
    | false =>
      dsimp only
      rw [kF, kF]
      exact ⟨rfl, rfl⟩
theorem swM {c : SG} (g : KG c) {a : Nat} (ha : a < (c 10 0).toNatClampNeg) (p : SG × Int32 × Int32) (x : Option (Nat × Nat) × Int32) (o : MtC c p.1 (c 11) (c 12) (c 13) (c 14) 0) (e1 : p.2.1 = enM x.1) (e2 : p.2.2 = x.2) : ∀ m, a + 1 + m ≤ (c 10 0).toNatClampNeg → MtC c (itr (B_swapOf_16 a) (a + 1) m p).1 (c 11) (c 12) (c 13) (c 14) 0 ∧ (itr (B_swapOf_16 a) (a + 1) m p).2.1 = enM (itr (swF c a) (a + 1) m x).1 ∧ (itr (B_swapOf_16 a) (a + 1) m p).2.2 = (itr (swF c a) (a + 1) m x).2 := by
  intro m
  induction m with
  | zero => exact fun _ => ⟨o, e1, e2⟩
  | succ m ih =>
    intro hm
    obtain ⟨i1, i2, i3⟩ := ih (by omega)
    rw [itr_succ, itr_succ]
    generalize itr (B_swapOf_16 a) (a + 1) m p = u at *
    generalize itr (swF c a) (a + 1) m x = v at *
    obtain ⟨m1, m2⟩ := msM g i1 (a := a) (b := a + 1 + m) (by omega) (by omega)
    have eB : B_swapOf_16 a (a + 1 + m) u = ((uset (uset (F_runs (uset (uset u.1 135 a (Int32.ofNat (a + 1 + m))) 135 (a + 1 + m) (Int32.ofNat a))) 135 a (Int32.ofNat a)) 135 (a + 1 + m) (Int32.ofNat (a + 1 + m))), (bif m_cmp .le (F_runs (uset (uset u.1 135 a (Int32.ofNat (a + 1 + m))) 135 (a + 1 + m) (Int32.ofNat a)) 123 19) u.2.2 then u.2.1 else (8 * (Int32.ofNat a)) + (Int32.ofNat (a + 1 + m))), (bif m_cmp .le (F_runs (uset (uset u.1 135 a (Int32.ofNat (a + 1 + m))) 135 (a + 1 + m) (Int32.ofNat a)) 123 19) u.2.2 then u.2.2 else F_runs (uset (uset u.1 135 a (Int32.ofNat (a + 1 + m))) 135 (a + 1 + m) (Int32.ofNat a)) 123 19)) := rfl
    rw [eB, m1]
    generalize F_runs (uset (uset u.1 135 a (Int32.ofNat (a + 1 + m))) 135 (a + 1 + m) (Int32.ofNat a)) = y at *
    refine ⟨m2, ?_⟩
    unfold swF
    rw [i3]
    generalize mtS c a (a + 1 + m) = d
    cases m_cmp .le d v.2 with
    | true =>
      dsimp only
      rw [kT, kT, kT]
      exact ⟨i2, rfl⟩
    | false =>
      dsimp only
      rw [kF, kF, kF]
      exact ⟨rfl, rfl⟩
theorem swI_ok {s : SG} {n a : Nat} {x : Option (Nat × Nat) × Int32} (h : okX n x) : ∀ m, a + 1 + m ≤ n → okX n (itr (swF s a) (a + 1) m x) := by
  intro m
  induction m with
  | zero => exact fun _ => h
  | succ m ih =>
    intro hm
    rw [itr_succ]
    exact swF_ok (ih (by omega)) (by omega) (by omega)
theorem swOC {s : SG} (h : KG s) : ∀ i, i ≤ (s 10 0).toNatClampNeg → Fr Wo s (itr B_cswap_14 0 i (s, (-1), (-1), (-1))).1 ∧ ((itr B_cswap_14 0 i (s, (-1), (-1), (-1))).2.1, (itr B_cswap_14 0 i (s, (-1), (-1), (-1))).2.2.1) = enC (swO s (s 10 0).toNatClampNeg i).1 ∧ (itr B_cswap_14 0 i (s, (-1), (-1), (-1))).2.2.2 = (swO s (s 10 0).toNatClampNeg i).2 := by
  intro i
  induction i with
  | zero => exact fun _ => ⟨Fr.rf _ _, rfl, rfl⟩
  | succ i ih =>
    intro hi
    obtain ⟨i1, i2, i3⟩ := ih (by omega)
    have e0 : swO s (s 10 0).toNatClampNeg (i + 1) = swI s (s 10 0).toNatClampNeg i ((s 10 0).toNatClampNeg - (i + 1)) (swO s (s 10 0).toNatClampNeg i) := itr_0 _ _ _
    rw [itr_0, e0]
    generalize itr B_cswap_14 0 i (s, (-1), (-1), (-1)) = u at *
    generalize swO s (s 10 0).toNatClampNeg i = v at *
    have eB : B_cswap_14 i u = itr (B_cswap_23 i) (i + 1) ((u.1 10 0).toNatClampNeg - (i + 1)) u := rfl
    rw [eB, i1 10 0 rfl]
    exact swC h (by omega) u v i1 i2 i3 _ (by omega)
theorem swOM {c : SG} (g : KG c) : ∀ i, i ≤ (c 10 0).toNatClampNeg → MtC c (itr B_swapOf_8 0 i (F_asTold c, (-1), (-1))).1 (c 11) (c 12) (c 13) (c 14) 0 ∧ (itr B_swapOf_8 0 i (F_asTold c, (-1), (-1))).2.1 = enM (swO c (c 10 0).toNatClampNeg i).1 ∧ (itr B_swapOf_8 0 i (F_asTold c, (-1), (-1))).2.2 = (swO c (c 10 0).toNatClampNeg i).2 := by
  intro i
  induction i with
  | zero => exact fun _ => ⟨mtTold g.1.1 g.2.1, rfl, rfl⟩
  | succ i ih =>
    intro hi
    obtain ⟨i1, i2, i3⟩ := ih (by omega)
    have e0 : swO c (c 10 0).toNatClampNeg (i + 1) = swI c (c 10 0).toNatClampNeg i ((c 10 0).toNatClampNeg - (i + 1)) (swO c (c 10 0).toNatClampNeg i) := itr_0 _ _ _
    rw [itr_0, e0]
    generalize itr B_swapOf_8 0 i (F_asTold c, (-1), (-1)) = u at *
    generalize swO c (c 10 0).toNatClampNeg i = v at *
    have eB : B_swapOf_8 i u = itr (B_swapOf_16 i) (i + 1) ((u.1 123 2).toNatClampNeg - (i + 1)) u := rfl
    rw [eB, i1.1]
    exact swM g (by omega) u v i1 i2 i3 _ (by omega)
theorem swO_ok (s : SG) (n : Nat) : ∀ i, i ≤ n → okX n (swO s n i) := by
  intro i
  induction i with
  | zero => exact fun _ => ⟨fun a b e => (by cases e), fun _ => rfl⟩
  | succ i ih =>
    intro hi
    have e0 : swO s n (i + 1) = swI s n i (n - (i + 1)) (swO s n i) := itr_0 _ _ _
    rw [e0]
    exact swI_ok (ih (by omega)) _ (by omega)
theorem en8 : ∀ a, a < 8 → ∀ b, b < 8 → ((8 * Int32.ofNat a) + Int32.ofNat b) / 8 = Int32.ofNat a ∧ ((8 * Int32.ofNat a) + Int32.ofNat b) - ((8 * Int32.ofNat a) + Int32.ofNat b) / 8 * 8 = Int32.ofNat b ∧ m_cmp .ne ((8 * Int32.ofNat a) + Int32.ofNat b) (-1) = true := by decide
theorem q_swap {s : SG} (h : KF s) (wh : Int32) : QK (F_cswap s wh) (fun y => F_swap y wh) := by
  refine ⟨(kf_swap h wh).ag ((fr_swap _ wh).ag DF rfl), ?_⟩
  have eC : F_cswap s wh = bif m_cmp .ne (F_isBelow s wh 3) 0 then (bif m_cmp .ne wh 0 then (bif m_cmp .ne wh 1 then (itr B_cswap_14 0 ((s 10 0).toNatClampNeg) (s, (-1), (-1), (-1))).2.2.2 else (itr B_cswap_14 0 ((s 10 0).toNatClampNeg) (s, (-1), (-1), (-1))).2.2.1, (itr B_cswap_14 0 ((s 10 0).toNatClampNeg) (s, (-1), (-1), (-1))).1) else ((itr B_cswap_14 0 ((s 10 0).toNatClampNeg) (s, (-1), (-1), (-1))).2.1, (itr B_cswap_14 0 ((s 10 0).toNatClampNeg) (s, (-1), (-1), (-1))).1)) else ((-2), s) := rfl
  have eM : ∀ y, F_swap y wh = bif m_cmp .eq (F_isThree y wh) 0 then ((-2 : Int32), y) else (bif m_cmp .ne (itr B_swapOf_8 0 ((F_asTold y 123 2).toNatClampNeg) (F_asTold y, (-1), (-1))).2.1 (-1) then (bif m_cmp .ne wh 0 then (bif m_cmp .ne wh 1 then (itr B_swapOf_8 0 ((F_asTold y 123 2).toNatClampNeg) (F_asTold y, (-1), (-1))).2.2 else (itr B_swapOf_8 0 ((F_asTold y 123 2).toNatClampNeg) (F_asTold y, (-1), (-1))).2.1 - (itr B_swapOf_8 0 ((F_asTold y 123 2).toNatClampNeg) (F_asTold y, (-1), (-1))).2.1 / 8 * 8) else (itr B_swapOf_8 0 ((F_asTold y 123 2).toNatClampNeg) (F_asTold y, (-1), (-1))).2.1 / 8) else (-1 : Int32), (itr B_swapOf_8 0 ((F_asTold y 123 2).toNatClampNeg) (F_asTold y, (-1), (-1))).1) := fun _ => rfl
  have h8 := row8 h.1.1.1 h.1.2.1.1
  rw [bl_n] at eC
  cases q : bl wh 3 with
  | false =>
    rw [q, kF] at eC
    rw [eC]
    dsimp only
    rw [eM, is3_e, q, lF, kT]
  | true =>
    rw [q, kT] at eC
    rw [eC]
    obtain ⟨f, e1, e2⟩ := swOC h.1 _ (Nat.le_refl _)
    generalize itr B_cswap_14 0 ((s 10 0).toNatClampNeg) (s, (-1), (-1), (-1)) = u at *
    obtain ⟨c, p1, p2, p3⟩ := u
    dsimp only at f e1 e2
    obtain ⟨g, eJ⟩ := KG.sd h.1 f
    have cl := wo_cell f
    have eS : swO c = swO s := by
      have em : mtS c = mtS s := by
        funext a b
        unfold mtS seJ
        rw [befC_ag (f.ag DJ rfl) 255, f 10 0 rfl, f 10 5 rfl, f 10 6 rfl, cl 11 (by decide), cl 12 (by decide), cl 13 (by decide), cl 14 (by decide)]
      have ef : swF c = swF s := by
        funext a b x
        unfold swF
        rw [em]
      have ei : swI c = swI s := by
        funext n a m x
        unfold swI
        rw [ef]
      funext n i
      unfold swO
      rw [ei]
    obtain ⟨-, d1, d2⟩ := swOM g _ (Nat.le_refl _)
    rw [eS, f 10 0 rfl] at d1 d2
    have mt := mtTold g.1.1 g.2.1
    have en : (F_asTold c 123 2).toNatClampNeg = (s 10 0).toNatClampNeg := by rw [mt.1, f 10 0 rfl]
    have ok := swO_ok s (s 10 0).toNatClampNeg (s 10 0).toNatClampNeg (Nat.le_refl _)
    have key : ((bif m_cmp .ne wh 0 then (bif m_cmp .ne wh 1 then p3 else p2, c) else (p1, c) : Int32 × SG)).2 = c := by
      cases m_cmp .ne wh 0 <;> rfl
    show _ = (F_swap ((bif m_cmp .ne wh 0 then (bif m_cmp .ne wh 1 then p3 else p2, c) else (p1, c) : Int32 × SG)).2 wh).1
    rw [key, eM, is3_e, q, lT, kF, en, mkF, d1, d2, e2]
    generalize swO s (s 10 0).toNatClampNeg (s 10 0).toNatClampNeg = v at *
    obtain ⟨w, r⟩ := v
    cases w with
    | none =>
      have r1 := ok.2 rfl
      cases e1
      dsimp only at r1 ⊢
      rw [r1]
      have m1 : m_cmp .ne (enM none) (-1) = false := rfl
      rw [m1, kF]
      cases m_cmp .ne wh 0
      · rfl
      · cases m_cmp .ne wh 1 <;> rfl
    | some ab =>
      obtain ⟨a, b⟩ := ab
      obtain ⟨l1, l2⟩ := ok.1 a b rfl
      obtain ⟨n1, n2, n3⟩ := en8 a (by omega) b (by omega)
      have em : enM (some (a, b)) = (8 * Int32.ofNat a) + Int32.ofNat b := rfl
      have ec : enC (some (a, b)) = (Int32.ofNat a, Int32.ofNat b) := rfl
      dsimp only at e1 ⊢
      rw [ec] at e1
      have e3 : p1 = Int32.ofNat a := congrArg Prod.fst e1
      have e4 : p2 = Int32.ofNat b := congrArg Prod.snd e1
      rw [em, n3, kT, n2, n1, e3, e4]
      cases m_cmp .ne wh 0
      · rfl
      · cases m_cmp .ne wh 1 <;> rfl
end
section
/-! spare: what had better not have been -/
def bcF (b : Int32) : Int32 := (((((((b - (((Int32.toUInt32 b >>> (Int32.toUInt32 1 &&& Int32.toUInt32 31)).toInt32) &&& (1431655765 : Int32))) &&& (858993459 : Int32)) + (((Int32.toUInt32 (b - (((Int32.toUInt32 b >>> (Int32.toUInt32 1 &&& Int32.toUInt32 31)).toInt32) &&& (1431655765 : Int32))) >>> (Int32.toUInt32 2 &&& Int32.toUInt32 31)).toInt32) &&& (858993459 : Int32))) + ((Int32.toUInt32 (((b - (((Int32.toUInt32 b >>> (Int32.toUInt32 1 &&& Int32.toUInt32 31)).toInt32) &&& (1431655765 : Int32))) &&& (858993459 : Int32)) + (((Int32.toUInt32 (b - (((Int32.toUInt32 b >>> (Int32.toUInt32 1 &&& Int32.toUInt32 31)).toInt32) &&& (1431655765 : Int32))) >>> (Int32.toUInt32 2 &&& Int32.toUInt32 31)).toInt32) &&& (858993459 : Int32))) >>> (Int32.toUInt32 4 &&& Int32.toUInt32 31)).toInt32)) &&& (252645135 : Int32)) + ((Int32.toUInt32 (((((b - (((Int32.toUInt32 b >>> (Int32.toUInt32 1 &&& Int32.toUInt32 31)).toInt32) &&& (1431655765 : Int32))) &&& (858993459 : Int32)) + (((Int32.toUInt32 (b - (((Int32.toUInt32 b >>> (Int32.toUInt32 1 &&& Int32.toUInt32 31)).toInt32) &&& (1431655765 : Int32))) >>> (Int32.toUInt32 2 &&& Int32.toUInt32 31)).toInt32) &&& (858993459 : Int32))) + ((Int32.toUInt32 (((b - (((Int32.toUInt32 b >>> (Int32.toUInt32 1 &&& Int32.toUInt32 31)).toInt32) &&& (1431655765 : Int32))) &&& (858993459 : Int32)) + (((Int32.toUInt32 (b - (((Int32.toUInt32 b >>> (Int32.toUInt32 1 &&& Int32.toUInt32 31)).toInt32) &&& (1431655765 : Int32))) >>> (Int32.toUInt32 2 &&& Int32.toUInt32 31)).toInt32) &&& (858993459 : Int32))) >>> (Int32.toUInt32 4 &&& Int32.toUInt32 31)).toInt32)) &&& (252645135 : Int32)) >>> (Int32.toUInt32 8 &&& Int32.toUInt32 31)).toInt32)) + ((Int32.toUInt32 ((((((b - (((Int32.toUInt32 b >>> (Int32.toUInt32 1 &&& Int32.toUInt32 31)).toInt32) &&& (1431655765 : Int32))) &&& (858993459 : Int32)) + (((Int32.toUInt32 (b - (((Int32.toUInt32 b >>> (Int32.toUInt32 1 &&& Int32.toUInt32 31)).toInt32) &&& (1431655765 : Int32))) >>> (Int32.toUInt32 2 &&& Int32.toUInt32 31)).toInt32) &&& (858993459 : Int32))) + ((Int32.toUInt32 (((b - (((Int32.toUInt32 b >>> (Int32.toUInt32 1 &&& Int32.toUInt32 31)).toInt32) &&& (1431655765 : Int32))) &&& (858993459 : Int32)) + (((Int32.toUInt32 (b - (((Int32.toUInt32 b >>> (Int32.toUInt32 1 &&& Int32.toUInt32 31)).toInt32) &&& (1431655765 : Int32))) >>> (Int32.toUInt32 2 &&& Int32.toUInt32 31)).toInt32) &&& (858993459 : Int32))) >>> (Int32.toUInt32 4 &&& Int32.toUInt32 31)).toInt32)) &&& (252645135 : Int32)) + ((Int32.toUInt32 (((((b - (((Int32.toUInt32 b >>> (Int32.toUInt32 1 &&& Int32.toUInt32 31)).toInt32) &&& (1431655765 : Int32))) &&& (858993459 : Int32)) + (((Int32.toUInt32 (b - (((Int32.toUInt32 b >>> (Int32.toUInt32 1 &&& Int32.toUInt32 31)).toInt32) &&& (1431655765 : Int32))) >>> (Int32.toUInt32 2 &&& Int32.toUInt32 31)).toInt32) &&& (858993459 : Int32))) + ((Int32.toUInt32 (((b - (((Int32.toUInt32 b >>> (Int32.toUInt32 1 &&& Int32.toUInt32 31)).toInt32) &&& (1431655765 : Int32))) &&& (858993459 : Int32)) + (((Int32.toUInt32 (b - (((Int32.toUInt32 b >>> (Int32.toUInt32 1 &&& Int32.toUInt32 31)).toInt32) &&& (1431655765 : Int32))) >>> (Int32.toUInt32 2 &&& Int32.toUInt32 31)).toInt32) &&& (858993459 : Int32))) >>> (Int32.toUInt32 4 &&& Int32.toUInt32 31)).toInt32)) &&& (252645135 : Int32)) >>> (Int32.toUInt32 8 &&& Int32.toUInt32 31)).toInt32)) >>> (Int32.toUInt32 16 &&& Int32.toUInt32 31)).toInt32)) &&& (63 : Int32)
theorem ux_bitCount (s : SG) (b : Int32) : UP m_J6_bitCount_0f7a4 0 (m_ent 1 [.int b]) [] s (Qi s (bcF b)) := by
  refine UP.of_b (fun n => ?_)
  refine UPB.stp 41 (i1 := 41) (L1 := [some (.int (((((((b - (((Int32.toUInt32 b >>> (Int32.toUInt32 1 &&& Int32.toUInt32 31)).toInt32) &&& (1431655765 : Int32))) &&& (858993459 : Int32)) + (((Int32.toUInt32 (b - (((Int32.toUInt32 b >>> (Int32.toUInt32 1 &&& Int32.toUInt32 31)).toInt32) &&& (1431655765 : Int32))) >>> (Int32.toUInt32 2 &&& Int32.toUInt32 31)).toInt32) &&& (858993459 : Int32))) + ((Int32.toUInt32 (((b - (((Int32.toUInt32 b >>> (Int32.toUInt32 1 &&& Int32.toUInt32 31)).toInt32) &&& (1431655765 : Int32))) &&& (858993459 : Int32)) + (((Int32.toUInt32 (b - (((Int32.toUInt32 b >>> (Int32.toUInt32 1 &&& Int32.toUInt32 31)).toInt32) &&& (1431655765 : Int32))) >>> (Int32.toUInt32 2 &&& Int32.toUInt32 31)).toInt32) &&& (858993459 : Int32))) >>> (Int32.toUInt32 4 &&& Int32.toUInt32 31)).toInt32)) &&& (252645135 : Int32)) + ((Int32.toUInt32 (((((b - (((Int32.toUInt32 b >>> (Int32.toUInt32 1 &&& Int32.toUInt32 31)).toInt32) &&& (1431655765 : Int32))) &&& (858993459 : Int32)) + (((Int32.toUInt32 (b - (((Int32.toUInt32 b >>> (Int32.toUInt32 1 &&& Int32.toUInt32 31)).toInt32) &&& (1431655765 : Int32))) >>> (Int32.toUInt32 2 &&& Int32.toUInt32 31)).toInt32) &&& (858993459 : Int32))) + ((Int32.toUInt32 (((b - (((Int32.toUInt32 b >>> (Int32.toUInt32 1 &&& Int32.toUInt32 31)).toInt32) &&& (1431655765 : Int32))) &&& (858993459 : Int32)) + (((Int32.toUInt32 (b - (((Int32.toUInt32 b >>> (Int32.toUInt32 1 &&& Int32.toUInt32 31)).toInt32) &&& (1431655765 : Int32))) >>> (Int32.toUInt32 2 &&& Int32.toUInt32 31)).toInt32) &&& (858993459 : Int32))) >>> (Int32.toUInt32 4 &&& Int32.toUInt32 31)).toInt32)) &&& (252645135 : Int32)) >>> (Int32.toUInt32 8 &&& Int32.toUInt32 31)).toInt32)) + ((Int32.toUInt32 ((((((b - (((Int32.toUInt32 b >>> (Int32.toUInt32 1 &&& Int32.toUInt32 31)).toInt32) &&& (1431655765 : Int32))) &&& (858993459 : Int32)) + (((Int32.toUInt32 (b - (((Int32.toUInt32 b >>> (Int32.toUInt32 1 &&& Int32.toUInt32 31)).toInt32) &&& (1431655765 : Int32))) >>> (Int32.toUInt32 2 &&& Int32.toUInt32 31)).toInt32) &&& (858993459 : Int32))) + ((Int32.toUInt32 (((b - (((Int32.toUInt32 b >>> (Int32.toUInt32 1 &&& Int32.toUInt32 31)).toInt32) &&& (1431655765 : Int32))) &&& (858993459 : Int32)) + (((Int32.toUInt32 (b - (((Int32.toUInt32 b >>> (Int32.toUInt32 1 &&& Int32.toUInt32 31)).toInt32) &&& (1431655765 : Int32))) >>> (Int32.toUInt32 2 &&& Int32.toUInt32 31)).toInt32) &&& (858993459 : Int32))) >>> (Int32.toUInt32 4 &&& Int32.toUInt32 31)).toInt32)) &&& (252645135 : Int32)) + ((Int32.toUInt32 (((((b - (((Int32.toUInt32 b >>> (Int32.toUInt32 1 &&& Int32.toUInt32 31)).toInt32) &&& (1431655765 : Int32))) &&& (858993459 : Int32)) + (((Int32.toUInt32 (b - (((Int32.toUInt32 b >>> (Int32.toUInt32 1 &&& Int32.toUInt32 31)).toInt32) &&& (1431655765 : Int32))) >>> (Int32.toUInt32 2 &&& Int32.toUInt32 31)).toInt32) &&& (858993459 : Int32))) + ((Int32.toUInt32 (((b - (((Int32.toUInt32 b >>> (Int32.toUInt32 1 &&& Int32.toUInt32 31)).toInt32) &&& (1431655765 : Int32))) &&& (858993459 : Int32)) + (((Int32.toUInt32 (b - (((Int32.toUInt32 b >>> (Int32.toUInt32 1 &&& Int32.toUInt32 31)).toInt32) &&& (1431655765 : Int32))) >>> (Int32.toUInt32 2 &&& Int32.toUInt32 31)).toInt32) &&& (858993459 : Int32))) >>> (Int32.toUInt32 4 &&& Int32.toUInt32 31)).toInt32)) &&& (252645135 : Int32)) >>> (Int32.toUInt32 8 &&& Int32.toUInt32 31)).toInt32)) >>> (Int32.toUInt32 16 &&& Int32.toUInt32 31)).toInt32)))]) (st1 := [.int ((((((((b - (((Int32.toUInt32 b >>> (Int32.toUInt32 1 &&& Int32.toUInt32 31)).toInt32) &&& (1431655765 : Int32))) &&& (858993459 : Int32)) + (((Int32.toUInt32 (b - (((Int32.toUInt32 b >>> (Int32.toUInt32 1 &&& Int32.toUInt32 31)).toInt32) &&& (1431655765 : Int32))) >>> (Int32.toUInt32 2 &&& Int32.toUInt32 31)).toInt32) &&& (858993459 : Int32))) + ((Int32.toUInt32 (((b - (((Int32.toUInt32 b >>> (Int32.toUInt32 1 &&& Int32.toUInt32 31)).toInt32) &&& (1431655765 : Int32))) &&& (858993459 : Int32)) + (((Int32.toUInt32 (b - (((Int32.toUInt32 b >>> (Int32.toUInt32 1 &&& Int32.toUInt32 31)).toInt32) &&& (1431655765 : Int32))) >>> (Int32.toUInt32 2 &&& Int32.toUInt32 31)).toInt32) &&& (858993459 : Int32))) >>> (Int32.toUInt32 4 &&& Int32.toUInt32 31)).toInt32)) &&& (252645135 : Int32)) + ((Int32.toUInt32 (((((b - (((Int32.toUInt32 b >>> (Int32.toUInt32 1 &&& Int32.toUInt32 31)).toInt32) &&& (1431655765 : Int32))) &&& (858993459 : Int32)) + (((Int32.toUInt32 (b - (((Int32.toUInt32 b >>> (Int32.toUInt32 1 &&& Int32.toUInt32 31)).toInt32) &&& (1431655765 : Int32))) >>> (Int32.toUInt32 2 &&& Int32.toUInt32 31)).toInt32) &&& (858993459 : Int32))) + ((Int32.toUInt32 (((b - (((Int32.toUInt32 b >>> (Int32.toUInt32 1 &&& Int32.toUInt32 31)).toInt32) &&& (1431655765 : Int32))) &&& (858993459 : Int32)) + (((Int32.toUInt32 (b - (((Int32.toUInt32 b >>> (Int32.toUInt32 1 &&& Int32.toUInt32 31)).toInt32) &&& (1431655765 : Int32))) >>> (Int32.toUInt32 2 &&& Int32.toUInt32 31)).toInt32) &&& (858993459 : Int32))) >>> (Int32.toUInt32 4 &&& Int32.toUInt32 31)).toInt32)) &&& (252645135 : Int32)) >>> (Int32.toUInt32 8 &&& Int32.toUInt32 31)).toInt32)) + ((Int32.toUInt32 ((((((b - (((Int32.toUInt32 b >>> (Int32.toUInt32 1 &&& Int32.toUInt32 31)).toInt32) &&& (1431655765 : Int32))) &&& (858993459 : Int32)) + (((Int32.toUInt32 (b - (((Int32.toUInt32 b >>> (Int32.toUInt32 1 &&& Int32.toUInt32 31)).toInt32) &&& (1431655765 : Int32))) >>> (Int32.toUInt32 2 &&& Int32.toUInt32 31)).toInt32) &&& (858993459 : Int32))) + ((Int32.toUInt32 (((b - (((Int32.toUInt32 b >>> (Int32.toUInt32 1 &&& Int32.toUInt32 31)).toInt32) &&& (1431655765 : Int32))) &&& (858993459 : Int32)) + (((Int32.toUInt32 (b - (((Int32.toUInt32 b >>> (Int32.toUInt32 1 &&& Int32.toUInt32 31)).toInt32) &&& (1431655765 : Int32))) >>> (Int32.toUInt32 2 &&& Int32.toUInt32 31)).toInt32) &&& (858993459 : Int32))) >>> (Int32.toUInt32 4 &&& Int32.toUInt32 31)).toInt32)) &&& (252645135 : Int32)) + ((Int32.toUInt32 (((((b - (((Int32.toUInt32 b >>> (Int32.toUInt32 1 &&& Int32.toUInt32 31)).toInt32) &&& (1431655765 : Int32))) &&& (858993459 : Int32)) + (((Int32.toUInt32 (b - (((Int32.toUInt32 b >>> (Int32.toUInt32 1 &&& Int32.toUInt32 31)).toInt32) &&& (1431655765 : Int32))) >>> (Int32.toUInt32 2 &&& Int32.toUInt32 31)).toInt32) &&& (858993459 : Int32))) + ((Int32.toUInt32 (((b - (((Int32.toUInt32 b >>> (Int32.toUInt32 1 &&& Int32.toUInt32 31)).toInt32) &&& (1431655765 : Int32))) &&& (858993459 : Int32)) + (((Int32.toUInt32 (b - (((Int32.toUInt32 b >>> (Int32.toUInt32 1 &&& Int32.toUInt32 31)).toInt32) &&& (1431655765 : Int32))) >>> (Int32.toUInt32 2 &&& Int32.toUInt32 31)).toInt32) &&& (858993459 : Int32))) >>> (Int32.toUInt32 4 &&& Int32.toUInt32 31)).toInt32)) &&& (252645135 : Int32)) >>> (Int32.toUInt32 8 &&& Int32.toUInt32 31)).toInt32)) >>> (Int32.toUInt32 16 &&& Int32.toUInt32 31)).toInt32)) &&& (63 : Int32))]) (s1 := s) rfl ?_
  exact UPB.ret (r := some (.int ((((((((b - (((Int32.toUInt32 b >>> (Int32.toUInt32 1 &&& Int32.toUInt32 31)).toInt32) &&& (1431655765 : Int32))) &&& (858993459 : Int32)) + (((Int32.toUInt32 (b - (((Int32.toUInt32 b >>> (Int32.toUInt32 1 &&& Int32.toUInt32 31)).toInt32) &&& (1431655765 : Int32))) >>> (Int32.toUInt32 2 &&& Int32.toUInt32 31)).toInt32) &&& (858993459 : Int32))) + ((Int32.toUInt32 (((b - (((Int32.toUInt32 b >>> (Int32.toUInt32 1 &&& Int32.toUInt32 31)).toInt32) &&& (1431655765 : Int32))) &&& (858993459 : Int32)) + (((Int32.toUInt32 (b - (((Int32.toUInt32 b >>> (Int32.toUInt32 1 &&& Int32.toUInt32 31)).toInt32) &&& (1431655765 : Int32))) >>> (Int32.toUInt32 2 &&& Int32.toUInt32 31)).toInt32) &&& (858993459 : Int32))) >>> (Int32.toUInt32 4 &&& Int32.toUInt32 31)).toInt32)) &&& (252645135 : Int32)) + ((Int32.toUInt32 (((((b - (((Int32.toUInt32 b >>> (Int32.toUInt32 1 &&& Int32.toUInt32 31)).toInt32) &&& (1431655765 : Int32))) &&& (858993459 : Int32)) + (((Int32.toUInt32 (b - (((Int32.toUInt32 b >>> (Int32.toUInt32 1 &&& Int32.toUInt32 31)).toInt32) &&& (1431655765 : Int32))) >>> (Int32.toUInt32 2 &&& Int32.toUInt32 31)).toInt32) &&& (858993459 : Int32))) + ((Int32.toUInt32 (((b - (((Int32.toUInt32 b >>> (Int32.toUInt32 1 &&& Int32.toUInt32 31)).toInt32) &&& (1431655765 : Int32))) &&& (858993459 : Int32)) + (((Int32.toUInt32 (b - (((Int32.toUInt32 b >>> (Int32.toUInt32 1 &&& Int32.toUInt32 31)).toInt32) &&& (1431655765 : Int32))) >>> (Int32.toUInt32 2 &&& Int32.toUInt32 31)).toInt32) &&& (858993459 : Int32))) >>> (Int32.toUInt32 4 &&& Int32.toUInt32 31)).toInt32)) &&& (252645135 : Int32)) >>> (Int32.toUInt32 8 &&& Int32.toUInt32 31)).toInt32)) + ((Int32.toUInt32 ((((((b - (((Int32.toUInt32 b >>> (Int32.toUInt32 1 &&& Int32.toUInt32 31)).toInt32) &&& (1431655765 : Int32))) &&& (858993459 : Int32)) + (((Int32.toUInt32 (b - (((Int32.toUInt32 b >>> (Int32.toUInt32 1 &&& Int32.toUInt32 31)).toInt32) &&& (1431655765 : Int32))) >>> (Int32.toUInt32 2 &&& Int32.toUInt32 31)).toInt32) &&& (858993459 : Int32))) + ((Int32.toUInt32 (((b - (((Int32.toUInt32 b >>> (Int32.toUInt32 1 &&& Int32.toUInt32 31)).toInt32) &&& (1431655765 : Int32))) &&& (858993459 : Int32)) + (((Int32.toUInt32 (b - (((Int32.toUInt32 b >>> (Int32.toUInt32 1 &&& Int32.toUInt32 31)).toInt32) &&& (1431655765 : Int32))) >>> (Int32.toUInt32 2 &&& Int32.toUInt32 31)).toInt32) &&& (858993459 : Int32))) >>> (Int32.toUInt32 4 &&& Int32.toUInt32 31)).toInt32)) &&& (252645135 : Int32)) + ((Int32.toUInt32 (((((b - (((Int32.toUInt32 b >>> (Int32.toUInt32 1 &&& Int32.toUInt32 31)).toInt32) &&& (1431655765 : Int32))) &&& (858993459 : Int32)) + (((Int32.toUInt32 (b - (((Int32.toUInt32 b >>> (Int32.toUInt32 1 &&& Int32.toUInt32 31)).toInt32) &&& (1431655765 : Int32))) >>> (Int32.toUInt32 2 &&& Int32.toUInt32 31)).toInt32) &&& (858993459 : Int32))) + ((Int32.toUInt32 (((b - (((Int32.toUInt32 b >>> (Int32.toUInt32 1 &&& Int32.toUInt32 31)).toInt32) &&& (1431655765 : Int32))) &&& (858993459 : Int32)) + (((Int32.toUInt32 (b - (((Int32.toUInt32 b >>> (Int32.toUInt32 1 &&& Int32.toUInt32 31)).toInt32) &&& (1431655765 : Int32))) >>> (Int32.toUInt32 2 &&& Int32.toUInt32 31)).toInt32) &&& (858993459 : Int32))) >>> (Int32.toUInt32 4 &&& Int32.toUInt32 31)).toInt32)) &&& (252645135 : Int32)) >>> (Int32.toUInt32 8 &&& Int32.toUInt32 31)).toInt32)) >>> (Int32.toUInt32 16 &&& Int32.toUInt32 31)).toInt32)) &&& (63 : Int32)))) rfl ⟨rfl, rfl⟩
/-! found or not -/
def sfi (Q : Nat → Bool) : Nat → Nat → Option Nat
  | 0, _ => none
  | n + 1, b => bif Q b then sfi Q n (b + 1) else some b
def sff (Q : Nat → Nat → Bool) (N : Nat) : Nat → Nat → Option (Nat × Option Nat)
  | 0, _ => none
  | n + 1, a => (sfi (Q a) (N - (a + 1)) (a + 1)).elim (sff Q N n (a + 1)) (fun b => some (a, some b))
abbrev SPR : Type := Option (Option (Nat × Option Nat))
def spR (q0 : Bool) (q1 : Nat → Bool) (q2 : Nat → Nat → Bool) (N : Nat) : SPR := bif q0 then (sfi q1 N 0).elim ((sff q2 N N 0).map some) (fun a => some (some (a, none))) else some none
theorem sfi_s (Q : Nat → Bool) (n b : Nat) : sfi Q (n + 1) b = bif Q b then sfi Q n (b + 1) else some b := rfl
theorem sff_s (Q : Nat → Nat → Bool) (N n a : Nat) : (sff Q N (n + 1) a).map some = (sfi (Q a) (N - (a + 1)) (a + 1)).elim ((sff Q N n (a + 1)).map some) (fun b => some (some (a, some b))) := by
  show ((sfi (Q a) (N - (a + 1)) (a + 1)).elim (sff Q N n (a + 1)) (fun b => some (a, some b))).map some = _
  cases sfi (Q a) (N - (a + 1)) (a + 1) <;> rfl
theorem sfi_lt {Q : Nat → Bool} : ∀ {n b x : Nat}, sfi Q n b = some x → b ≤ x ∧ x < b + n := by
  intro n
  induction n with
  | zero => intro b x h; cases h
  | succ n ih =>
    intro b x h
    rw [sfi_s] at h
    cases q : Q b with
    | true =>
      rw [q, kT] at h
      have := ih h
      omega
    | false =>
      rw [q, kF] at h
      cases h
      omega
theorem sff_lt {Q : Nat → Nat → Bool} {N : Nat} : ∀ {n a : Nat} {p : Nat × Option Nat}, sff Q N n a = some p → a + n ≤ N → ∃ x y, p = (x, some y) ∧ x < y ∧ y < N := by
  intro n
  induction n with
  | zero => intro a p h; cases h
  | succ n ih =>
    intro a p h hn
    have h : (sfi (Q a) (N - (a + 1)) (a + 1)).elim (sff Q N n (a + 1)) (fun b => some (a, some b)) = some p := h
    cases q : sfi (Q a) (N - (a + 1)) (a + 1) with
    | none =>
      rw [q] at h
      exact ih (show sff Q N n (a + 1) = some p from h) (by omega)
    | some b =>
      rw [q] at h
      have h : some (a, some b) = some p := h
      cases h
      have := sfi_lt q
      exact ⟨a, b, rfl, by omega, by omega⟩
def okR (N : Nat) (r : SPR) : Prop := (∀ a, r = some (some (a, none)) → a < N) ∧ ∀ a b, r = some (some (a, some b)) → a < b ∧ b < N
theorem spR_ok (q0 : Bool) (q1 : Nat → Bool) (q2 : Nat → Nat → Bool) (N : Nat) : okR N (spR q0 q1 q2 N) := by
  unfold spR
  cases q0 with
  | false => exact ⟨fun a e => (by cases e), fun a b e => (by cases e)⟩
  | true =>
    rw [kT]
    cases h : sfi q1 N 0 with
    | some a =>
      have := sfi_lt h
      exact ⟨fun c e => (by cases e; omega), fun c d e => (by cases e)⟩
    | none =>
      show okR N ((sff q2 N N 0).map some)
      cases g : sff q2 N N 0 with
      | none => exact ⟨fun a e => (by cases e), fun a b e => (by cases e)⟩
      | some p =>
        obtain ⟨x, y, rfl, h1, h2⟩ := sff_lt g (by omega)
        exact ⟨fun c e => (by cases e), fun c d e => (by cases e; exact ⟨h1, h2⟩)⟩
def enB (a : Nat) : Int32 := 1 <<< ((Int32.ofNat a) &&& 31)
def enCs (r : SPR) : Int32 := match r with
  | none => -1
  | some none => 0
  | some (some (a, none)) => enB a
  | some (some (a, some b)) => enB a ||| enB b
def enMs (r : SPR) : Int32 := match r with
  | none => -1
  | some none => 0
  | some (some (_, none)) => 1
  | some (some (_, some _)) => 2
def plnR (r : SPR) (s : SG) : Prop := (∀ a, r = some (some (a, none)) → s 144 0 = Int32.ofNat a) ∧ ∀ a b, r = some (some (a, some b)) → s 144 0 = Int32.ofNat a ∧ s 144 1 = Int32.ofNat b
def allM (N : Nat) : Int32 := (1 <<< ((Int32.ofNat N) &&& 31)) - 1
def mk1 (N a : Nat) : Int32 := allM N &&& (enB a ^^^ (-1 : Int32))
def mk2 (N a b : Nat) : Int32 := allM N &&& ((enB a ||| enB b) ^^^ (-1 : Int32))
theorem al_b : ∀ N, N < 9 → bl (allM N) 256 = true := by decide
theorem m1_b : ∀ N, N < 9 → ∀ a, a < 8 → bl (mk1 N a) 256 = true := by decide
theorem m2_b : ∀ N, N < 9 → ∀ a, a < 8 → ∀ b, b < 8 → bl (mk2 N a b) 256 = true := by decide +kernel
def bitK (N : Nat) (set mask : Int32) : Prop := ∀ e, e < N → m_cmp .ne ((set >>> ((Int32.ofNat e) &&& 31)) &&& 1) 0 = !(m_cmp .ne ((mask >>> ((Int32.ofNat e) &&& 31)) &&& 1) 0)
theorem al_k : ∀ N, N < 9 → ∀ e, e < N → m_cmp .ne (((0 : Int32) >>> ((Int32.ofNat e) &&& 31)) &&& 1) 0 = !(m_cmp .ne ((allM N >>> ((Int32.ofNat e) &&& 31)) &&& 1) 0) := by decide
theorem m1_k : ∀ N, N < 9 → ∀ a, a < 8 → ∀ e, e < N → m_cmp .ne ((enB a >>> ((Int32.ofNat e) &&& 31)) &&& 1) 0 = !(m_cmp .ne ((mk1 N a >>> ((Int32.ofNat e) &&& 31)) &&& 1) 0) := by decide +kernel
theorem m2_k : ∀ N, N < 9 → ∀ a, a < 8 → ∀ b, b < 8 → ∀ e, e < N → m_cmp .ne (((enB a ||| enB b) >>> ((Int32.ofNat e) &&& 31)) &&& 1) 0 = !(m_cmp .ne ((mk2 N a b >>> ((Int32.ofNat e) &&& 31)) &&& 1) 0) := by decide +kernel
/-- aground some time -/
def agN (s : SG) (mask : Int32) : Bool := m_cmp .ne (gfi (inC_a s mask) 24) (-1)
/-! the class -/
def CPs (s : SG) (r : SPR) (v : Option Value) (s1 : SG) : Prop := v = some (.int (enCs r)) ∧ KF s1 ∧ Ag DG s s1
theorem fawN {s w : SG} (k : KF w) (a : Ag DG s w) {mask : Int32} (hb : bl mask 256 = true) {z : Int32 × SG} (e : F_firstAgroundWith w mask = z) : KF z.2 ∧ Ag DG s z.2 ∧ m_cmp .ne z.1 (-1) = agN s mask := by
  obtain ⟨f1, f2, f3⟩ := faw k mask
  rw [e] at f1 f2 f3
  refine ⟨f1, a.tr f2, ?_⟩
  rw [f3 hb]
  unfold agN
  rw [inC_ag (a.sub rfl)]
section SPC
variable {s : SG} {N : Nat} (hN : N ≤ 8) (eN : s 2 3 = Int32.ofNat N)
theorem n23 {s w : SG} {N : Nat} (eN : s 2 3 = Int32.ofNat N) (a : Ag DG s w) : w 2 3 = Int32.ofNat N := (a 2 3 rfl).trans eN
theorem geT' {N : Nat} : m_cmp .ge (Int32.ofNat N) (Int32.ofNat N) = true := m_ge_iff.mpr (Int.le_refl _)
theorem geF' {a N : Nat} (h : a < N) (hN : N < 1000) : m_cmp .ge (Int32.ofNat a) (Int32.ofNat N) = false := ge_F (by rw [ofn_c hN]; exact h)
theorem spI {s : SG} {N : Nat} (hN : N ≤ 8) (eN : s 2 3 = Int32.ofNat N) (a : Nat) (ha : a < N) (K : SPR) (hout : ∀ (w : SG) (v3 v4 : Option Value), KF w → Ag DG s w → UP m_X6_sparedEvents 76 [some (.ref 0), some (.int (allM N)), some (.int (Int32.ofNat a)), v3, v4] [] w (CPs s K)) : ∀ (m b : Nat) (w : SG) (u4 : Option Value), b + m = N → KF w → Ag DG s w → UP m_X6_sparedEvents 50 [some (.ref 0), some (.int (allM N)), some (.int (Int32.ofNat a)), some (.int (Int32.ofNat b)), u4] [] w (CPs s ((sfi (fun b => agN s (mk2 N a b)) m b).elim K (fun b => some (some (a, some b))))) := by
  intro m
  induction m with
  | zero =>
    intro b w u4 hb hk hw
    have e : b = N := by omega
    subst e
    refine UP.stp 4 (i1 := 54) (L1 := [some (.ref 0), some (.int (allM b)), some (.int (Int32.ofNat a)), some (.int (Int32.ofNat b)), u4]) (st1 := [.int (w 2 3), .int (Int32.ofNat b)]) (s1 := w) rfl ?_
    rw [n23 eN hw]
    refine UP.icT rfl geT' ?_
    exact hout w _ _ hk hw
  | succ m ih =>
    intro b w u4 hb hk hw
    refine UP.stp 4 (i1 := 54) (L1 := [some (.ref 0), some (.int (allM N)), some (.int (Int32.ofNat a)), some (.int (Int32.ofNat b)), u4]) (st1 := [.int (w 2 3), .int (Int32.ofNat b)]) (s1 := w) rfl ?_
    rw [n23 eN hw]
    refine UP.icF rfl (geF' (by omega) (by omega)) ?_
    refine UP.stp 14 (i1 := 69) (L1 := [some (.ref 0), some (.int (allM N)), some (.int (Int32.ofNat a)), some (.int (Int32.ofNat b)), some (.int (enB a ||| enB b))]) (st1 := [.int (mk2 N a b), .ref 0]) (s1 := w) rfl ?_
    refine UP.cB (M1 := m_X6_firstAgroundWith) (as := [.ref 0, .int (mk2 N a b)]) (rest := []) (T := F_firstAgroundWith w (mk2 N a b)) rfl rfl (ux_firstAgroundWith w (mk2 N a b)) (fun z e => ?_)
    obtain ⟨z1, z2, z3⟩ := fawN hk hw (m2_b N (by omega) a (by omega) b (by omega)) e
    refine UP.stp 1 (i1 := 71) (L1 := [some (.ref 0), some (.int (allM N)), some (.int (Int32.ofNat a)), some (.int (Int32.ofNat b)), some (.int (enB a ||| enB b))]) (st1 := [.int (-1), .int z.1]) (s1 := z.2) rfl ?_
    rw [sfi_s]
    cases q : agN s (mk2 N a b) with
    | true =>
      rw [q] at z3
      refine UP.icT rfl z3 ?_
      refine UP.stp 2 (i1 := 50) (L1 := [some (.ref 0), some (.int (allM N)), some (.int (Int32.ofNat a)), some (.int (Int32.ofNat b + 1)), some (.int (enB a ||| enB b))]) (st1 := []) (s1 := z.2) rfl ?_
      rw [ofn_s, kT]
      exact ih (b + 1) z.2 _ (by omega) z1 z2
    | false =>
      rw [q] at z3
      refine UP.icF rfl z3 ?_
      refine UP.stp 1 (i1 := 73) (L1 := [some (.ref 0), some (.int (allM N)), some (.int (Int32.ofNat a)), some (.int (Int32.ofNat b)), some (.int (enB a ||| enB b))]) (st1 := [.int (enB a ||| enB b)]) (s1 := z.2) rfl ?_
      rw [kF]
      exact UP.ret (r := some (.int (enB a ||| enB b))) rfl ⟨rfl, z1, z2⟩
theorem spO {s : SG} {N : Nat} (hN : N ≤ 8) (eN : s 2 3 = Int32.ofNat N) : ∀ (n a : Nat) (w : SG) (v3 v4 : Option Value), a + n = N → KF w → Ag DG s w → UP m_X6_sparedEvents 41 [some (.ref 0), some (.int (allM N)), some (.int (Int32.ofNat a)), v3, v4] [] w (CPs s ((sff (fun a b => agN s (mk2 N a b)) N n a).map some)) := by
  intro n
  induction n with
  | zero =>
    intro a w v3 v4 ha hk hw
    have e : a = N := by omega
    subst e
    refine UP.stp 4 (i1 := 45) (L1 := [some (.ref 0), some (.int (allM a)), some (.int (Int32.ofNat a)), v3, v4]) (st1 := [.int (w 2 3), .int (Int32.ofNat a)]) (s1 := w) rfl ?_
    rw [n23 eN hw]
    refine UP.icT rfl geT' ?_
    refine UP.stp 1 (i1 := 79) (L1 := [some (.ref 0), some (.int (allM a)), some (.int (Int32.ofNat a)), v3, v4]) (st1 := [.int (-1)]) (s1 := w) rfl ?_
    exact UP.ret (r := some (.int (-1))) rfl ⟨rfl, hk, hw⟩
  | succ n ih =>
    intro a w v3 v4 ha hk hw
    refine UP.stp 4 (i1 := 45) (L1 := [some (.ref 0), some (.int (allM N)), some (.int (Int32.ofNat a)), v3, v4]) (st1 := [.int (w 2 3), .int (Int32.ofNat a)]) (s1 := w) rfl ?_
    rw [n23 eN hw]
    refine UP.icF rfl (geF' (by omega) (by omega)) ?_
    refine UP.stp 4 (i1 := 50) (L1 := [some (.ref 0), some (.int (allM N)), some (.int (Int32.ofNat a)), some (.int (Int32.ofNat a + 1)), v4]) (st1 := []) (s1 := w) rfl ?_
    rw [ofn_s, sff_s]
    exact spI hN eN a (by omega) _ (fun w2 x3 x4 k2 a2 => by
      refine UP.stp 2 (i1 := 41) (L1 := [some (.ref 0), some (.int (allM N)), some (.int (Int32.ofNat a + 1)), x3, x4]) (st1 := []) (s1 := w2) rfl ?_
      rw [ofn_s]
      exact ih (a + 1) w2 _ _ (by omega) k2 a2) (N - (a + 1)) (a + 1) w _ (by omega) hk hw
theorem sp1 {s : SG} {N : Nat} (hN : N ≤ 8) (eN : s 2 3 = Int32.ofNat N) : ∀ (n a : Nat) (w : SG) (v3 v4 : Option Value), a + n = N → KF w → Ag DG s w → UP m_X6_sparedEvents 17 [some (.ref 0), some (.int (allM N)), some (.int (Int32.ofNat a)), v3, v4] [] w (CPs s ((sfi (fun a => agN s (mk1 N a)) n a).elim ((sff (fun a b => agN s (mk2 N a b)) N N 0).map some) (fun a => some (some (a, none))))) := by
  intro n
  induction n with
  | zero =>
    intro a w v3 v4 ha hk hw
    have e : a = N := by omega
    subst e
    refine UP.stp 4 (i1 := 21) (L1 := [some (.ref 0), some (.int (allM a)), some (.int (Int32.ofNat a)), v3, v4]) (st1 := [.int (w 2 3), .int (Int32.ofNat a)]) (s1 := w) rfl ?_
    rw [n23 eN hw]
    refine UP.icT rfl geT' ?_
    refine UP.stp 2 (i1 := 41) (L1 := [some (.ref 0), some (.int (allM a)), some (.int (Int32.ofNat 0)), v3, v4]) (st1 := []) (s1 := w) rfl ?_
    exact spO hN eN a 0 w _ _ (by omega) hk hw
  | succ n ih =>
    intro a w v3 v4 ha hk hw
    refine UP.stp 4 (i1 := 21) (L1 := [some (.ref 0), some (.int (allM N)), some (.int (Int32.ofNat a)), v3, v4]) (st1 := [.int (w 2 3), .int (Int32.ofNat a)]) (s1 := w) rfl ?_
    rw [n23 eN hw]
    refine UP.icF rfl (geF' (by omega) (by omega)) ?_
    refine UP.stp 8 (i1 := 30) (L1 := [some (.ref 0), some (.int (allM N)), some (.int (Int32.ofNat a)), v3, v4]) (st1 := [.int (mk1 N a), .ref 0]) (s1 := w) rfl ?_
    refine UP.cB (M1 := m_X6_firstAgroundWith) (as := [.ref 0, .int (mk1 N a)]) (rest := []) (T := F_firstAgroundWith w (mk1 N a)) rfl rfl (ux_firstAgroundWith w (mk1 N a)) (fun z e => ?_)
    obtain ⟨z1, z2, z3⟩ := fawN hk hw (m1_b N (by omega) a (by omega)) e
    refine UP.stp 1 (i1 := 32) (L1 := [some (.ref 0), some (.int (allM N)), some (.int (Int32.ofNat a)), v3, v4]) (st1 := [.int (-1), .int z.1]) (s1 := z.2) rfl ?_
    rw [sfi_s]
    cases q : agN s (mk1 N a) with
    | true =>
      rw [q] at z3
      refine UP.icT rfl z3 ?_
      refine UP.stp 2 (i1 := 17) (L1 := [some (.ref 0), some (.int (allM N)), some (.int (Int32.ofNat a + 1)), v3, v4]) (st1 := []) (s1 := z.2) rfl ?_
      rw [ofn_s, kT]
      exact ih (a + 1) z.2 _ _ (by omega) z1 z2
    | false =>
      rw [q] at z3
      refine UP.icF rfl z3 ?_
      refine UP.stp 3 (i1 := 36) (L1 := [some (.ref 0), some (.int (allM N)), some (.int (Int32.ofNat a)), v3, v4]) (st1 := [.int (enB a)]) (s1 := z.2) rfl ?_
      rw [kF]
      exact UP.ret (r := some (.int (enB a))) rfl ⟨rfl, z1, z2⟩
end SPC
def rS (s : SG) (N : Nat) : SPR := spR (agN s (allM N)) (fun a => agN s (mk1 N a)) (fun a b => agN s (mk2 N a b)) N
theorem ux_spared {s : SG} {N : Nat} (h : KF s) (hN : N ≤ 8) (eN : s 2 3 = Int32.ofNat N) : UP m_X6_sparedEvents 0 (m_ent 5 [.ref 0]) [] s (CPs s (rS s N)) := by
  unfold rS spR
  refine UP.stp 8 (i1 := 8) (L1 := [some (.ref 0), some (.int ((1 <<< (s 2 3 &&& 31)) - 1)), none, none, none]) (st1 := []) (s1 := s) rfl ?_
  rw [eN]
  refine UP.stp 2 (i1 := 10) (L1 := [some (.ref 0), some (.int (allM N)), none, none, none]) (st1 := [.int (allM N), .ref 0]) (s1 := s) rfl ?_
  refine UP.cB (M1 := m_X6_firstAgroundWith) (as := [.ref 0, .int (allM N)]) (rest := []) (T := F_firstAgroundWith s (allM N)) rfl rfl (ux_firstAgroundWith s (allM N)) (fun z e => ?_)
  obtain ⟨z1, z2, z3⟩ := fawN h (Ag.rf _ _) (al_b N (by omega)) e
  refine UP.stp 1 (i1 := 12) (L1 := [some (.ref 0), some (.int (allM N)), none, none, none]) (st1 := [.int (-1), .int z.1]) (s1 := z.2) rfl ?_
  cases q : agN s (allM N) with
  | true =>
    rw [q] at z3
    refine UP.icT rfl z3 ?_
    refine UP.stp 2 (i1 := 17) (L1 := [some (.ref 0), some (.int (allM N)), some (.int (Int32.ofNat 0)), none, none]) (st1 := []) (s1 := z.2) rfl ?_
    rw [kT]
    exact sp1 hN eN N 0 z.2 _ _ (by omega) z1 z2
  | false =>
    rw [q] at z3
    refine UP.icF rfl z3 ?_
    refine UP.stp 1 (i1 := 14) (L1 := [some (.ref 0), some (.int (allM N)), none, none, none]) (st1 := [.int 0]) (s1 := z.2) rfl ?_
    rw [kF]
    exact UP.ret (r := some (.int 0)) rfl ⟨rfl, z1, z2⟩
/-! the model -/
theorem befT2 {s z : SG} (h : KE s) (f : Fr W_asTold s z) {set mask : Int32} (h17 : z 123 17 = set) (hb : bitK (s 2 3).toNatClampNeg set mask) (t : Nat) : befM z t = befC s mask t := by
  obtain ⟨h1, -, h3, h4, -, -, -⟩ := h
  unfold befM befC
  rw [f 123 11 rfl, ← h1]
  refine bef_c (fun e he => ?_)
  obtain ⟨a1, a2, a3⟩ := h4 e (by omega)
  refine ⟨(f 130 e rfl).trans a1.symm, (f 131 e rfl).trans a2.symm, (f 132 e rfl).trans a3.symm, ?_⟩
  unfold offM offC
  rw [isIn_bit, h17]
  exact hb e he
theorem runT2 {s z : SG} {so po ra ru : NI} {set mask : Int32} (hE : KE s) (h8 : (s 10 0).toNatClampNeg ≤ 8) (o : MtC s z so po ra ru set) (hb : bitK (s 2 3).toNatClampNeg set mask) (ov : ovJ (tJ s so po ra ru mask)) : MOu (tJ s so po ra ru mask) (F_runs z) ∧ MtC s (F_runs z) so po ra ru set := by
  obtain ⟨o1, o2, o3, o4, o5, f⟩ := o
  have E : eqJ (inM z) (tJ s so po ra ru mask) := by
    have en : jn (inM z) = (s 10 0).toNatClampNeg := by show (z 123 2).toNatClampNeg = _; rw [o1]
    refine ⟨en, fun k hk => ?_, fun t ht => ?_, ?_, ?_⟩
    · rw [en] at hk
      exact ⟨(o2 k hk).1, (o2 k hk).2, o4 k (by omega)⟩
    · exact ⟨(o3 t ht).1, (o3 t ht).2, befT2 hE f o5 hb t⟩
    · show z 123 9 = s 10 5
      rw [f 123 9 rfl]
      exact hE.2.2.2.2.2.1.symm
    · show z 123 10 = s 10 6
      rw [f 123 10 rfl]
      exact hE.2.2.2.2.2.2.symm
  obtain ⟨r, g⟩ := runMO (z := z) (by rw [o1]; exact h8) (fun k hk => ⟨k, hk, o4 k hk⟩) E ov
  exact ⟨r, (g 123 2 rfl).trans o1, fun k hk => ⟨(g 126 k rfl).trans (o2 k hk).1, (g 127 k rfl).trans (o2 k hk).2⟩, fun t ht => ⟨(g 133 t rfl).trans (o3 t ht).1, (g 134 t rfl).trans (o3 t ht).2⟩, fun k hk => (g 135 k rfl).trans (o4 k hk), (g 123 17 rfl).trans o5, f.tr (g.wk rfl)⟩
theorem gma_gfi (J : TI) (i : Nat) : i ≤ 24 → ∃ c, c ≤ i ∧ gma J i = Int32.ofNat c ∧ (c = 0 ↔ gfi J i = -1) := by
  induction i with
  | zero => exact fun _ => ⟨0, Nat.le_refl 0, gma_0 J, ⟨fun _ => gfi_0 J, fun _ => rfl⟩⟩
  | succ i ih =>
    intro hi
    obtain ⟨c, c1, c2, c3⟩ := ih (by omega)
    rw [gma_s, gfi_s, c2]
    rcases gr01 J i (trip J i) with e | e
    · rw [e]
      refine ⟨c, by omega, Int32.add_zero _, ?_⟩
      show c = 0 ↔ gfi J i = -1
      exact c3
    · rw [e]
      refine ⟨c + 1, by omega, ofn_s c, ⟨fun h => absurd h (by omega), fun h => ?_⟩⟩
      exfalso
      have h : (bif m_cmp .ne (gfi J i) (-1) then gfi J i else Int32.ofNat i) = -1 := h
      cases q : m_cmp .ne (gfi J i) (-1) with
      | true =>
        rw [q, kT] at h
        exact m_ne_iff.mp q h
      | false =>
        rw [q, kF] at h
        exact ofn_ne (by omega) h
theorem gmN (J : TI) : m_cmp .ne (gma J 24) 0 = m_cmp .ne (gfi J 24) (-1) := by
  obtain ⟨c, c1, c2, c3⟩ := gma_gfi J 24 (Nat.le_refl _)
  rw [c2]
  by_cases w : c = 0
  · rw [w, c3.mp w]
    rfl
  · rw [m_ne_iff.mpr (fun q => w (c3.mpr q))]
    refine m_ne_iff.mpr (fun q => w ?_)
    have q := congrArg Int32.toInt q
    rw [ofn_int (by omega)] at q
    have e0 : (0 : Int32).toInt = 0 := by decide
    omega
def MtE (c z : SG) : Prop := ∃ x, MtC c z (c 11) (c 12) (c 13) (c 14) x
def MPs (c : SG) (r : SPR) (v : Option Value) (s1 : SG) : Prop := v = some (.int (enMs r)) ∧ plnR r s1 ∧ MtE c s1
theorem isp {c w : SG} (g : KG c) {N : Nat} (eN : c 2 3 = Int32.ofNat N) (hN : N ≤ 8) (m : MtE c w) {set mask : Int32} (hb : bitK N set mask) {z : Int32 × SG} (e : F_isSpared w set = z) : MtE c z.2 ∧ m_cmp .eq z.1 0 = agN c mask ∧ ∀ j, z.2 144 j = w 144 j := by
  have h8 := row8 g.1.1 g.2.1.1
  obtain ⟨x, o⟩ := m
  have cN : (c 2 3).toNatClampNeg = N := by rw [eN]; exact ofn_c (by omega)
  obtain ⟨r1, r2⟩ := runT2 (mask := mask) g.2.2.1 h8 (o.wset set) (by rw [cN]; exact hb) (ovC g.1.1 g.2.1 mask)
  have eF : F_isSpared w set = (bif m_cmp .ne (F_runs (uset w 123 17 set) 123 22) 0 then (0 : Int32) else (1 : Int32), F_runs (uset w 123 17 set)) := rfl
  have fr := fr_runs (uset w 123 17 set)
  rw [eF] at e
  generalize F_runs (uset w 123 17 set) = y at *
  subst e
  refine ⟨⟨_, r2⟩, ?_, fun j => (fr 144 j rfl).trans (uset_na (by decide))⟩
  rw [mkF, r1.2.2.2.1, gmN]
  unfold agN
  have e1 : inC_a c mask = tJ c (c 11) (c 12) (c 13) (c 14) mask := rfl
  rw [e1]
  cases m_cmp .ne (gfi (tJ c (c 11) (c 12) (c 13) (c 14) mask) 24) (-1) <;> rfl
theorem n11 {c w : SG} {N : Nat} (hE : KE c) (eN : c 2 3 = Int32.ofNat N) (m : MtE c w) : w 123 11 = Int32.ofNat N := by
  obtain ⟨x, o⟩ := m
  rw [o.2.2.2.2.2 123 11 rfl, ← hE.1, eN]
theorem MtE.pl {c w : SG} (m : MtE c w) (j : Nat) (v : Int32) : MtE c (uset w 144 j v) := by
  obtain ⟨x, o1, o2, o3, o4, o5, o6⟩ := m
  exact ⟨x, (uset_na (by decide)).trans o1, fun k hk => ⟨(uset_na (by decide)).trans (o2 k hk).1, (uset_na (by decide)).trans (o2 k hk).2⟩, fun t ht => ⟨(uset_na (by decide)).trans (o3 t ht).1, (uset_na (by decide)).trans (o3 t ht).2⟩, fun k hk => (uset_na (by decide)).trans (o4 k hk), (uset_na (by decide)).trans o5, Fr.uset rfl o6⟩
theorem mpI {c : SG} {N : Nat} (g : KG c) (hN : N ≤ 8) (eN : c 2 3 = Int32.ofNat N) (a : Nat) (ha : a < N) (K : SPR) (hout : ∀ (w : SG) (v2 : Option Value), MtE c w → UP m_X7_spareBy 67 [some (.ref 123), some (.int (Int32.ofNat a)), v2] [] w (MPs c K)) : ∀ (m b : Nat) (w : SG), b + m = N → MtE c w → UP m_X7_spareBy 39 [some (.ref 123), some (.int (Int32.ofNat a)), some (.int (Int32.ofNat b))] [] w (MPs c ((sfi (fun b => agN c (mk2 N a b)) m b).elim K (fun b => some (some (a, some b))))) := by
  intro m
  induction m with
  | zero =>
    intro b w hb hm
    have e : b = N := by omega
    subst e
    refine UP.stp 3 (i1 := 42) (L1 := [some (.ref 123), some (.int (Int32.ofNat a)), some (.int (Int32.ofNat b))]) (st1 := [.int (w 123 11), .int (Int32.ofNat b)]) (s1 := w) rfl ?_
    rw [n11 g.2.2.1 eN hm]
    refine UP.icT rfl geT' ?_
    exact hout w _ hm
  | succ m ih =>
    intro b w hb hm
    refine UP.stp 3 (i1 := 42) (L1 := [some (.ref 123), some (.int (Int32.ofNat a)), some (.int (Int32.ofNat b))]) (st1 := [.int (w 123 11), .int (Int32.ofNat b)]) (s1 := w) rfl ?_
    rw [n11 g.2.2.1 eN hm]
    refine UP.icF rfl (geF' (by omega) (by omega)) ?_
    refine UP.stp 18 (i1 := 61) (L1 := [some (.ref 123), some (.int (Int32.ofNat a)), some (.int (Int32.ofNat b))]) (st1 := [.int (enB a ||| enB b), .ref 123]) (s1 := uset (uset w 144 0 (Int32.ofNat a)) 144 1 (Int32.ofNat b)) rfl ?_
    have p0 : uset (uset w 144 0 (Int32.ofNat a)) 144 1 (Int32.ofNat b) 144 0 = Int32.ofNat a := (uset_nj (by decide)).trans (uset_eq _ _ _ _)
    have p1 : uset (uset w 144 0 (Int32.ofNat a)) 144 1 (Int32.ofNat b) 144 1 = Int32.ofNat b := uset_eq _ _ _ _
    have hm2 := (hm.pl 0 (Int32.ofNat a)).pl 1 (Int32.ofNat b)
    generalize uset (uset w 144 0 (Int32.ofNat a)) 144 1 (Int32.ofNat b) = w2 at *
    refine UP.cB (M1 := m_X7_isSpared) (as := [.ref 123, .int (enB a ||| enB b)]) (rest := []) (T := F_isSpared w2 (enB a ||| enB b)) rfl rfl (ux_isSpared w2 (enB a ||| enB b)) (fun z e => ?_)
    obtain ⟨z1, z2, z3⟩ := isp g eN hN hm2 (mask := mk2 N a b) (m2_k N (by omega) a (by omega) b (by omega)) e
    rw [sfi_s]
    cases q : agN c (mk2 N a b) with
    | true =>
      rw [q] at z2
      refine UP.ifT rfl z2 ?_
      refine UP.stp 2 (i1 := 39) (L1 := [some (.ref 123), some (.int (Int32.ofNat a)), some (.int (Int32.ofNat b + 1))]) (st1 := []) (s1 := z.2) rfl ?_
      rw [ofn_s, kT]
      exact ih (b + 1) z.2 (by omega) z1
    | false =>
      rw [q] at z2
      refine UP.ifF rfl z2 ?_
      refine UP.stp 1 (i1 := 64) (L1 := [some (.ref 123), some (.int (Int32.ofNat a)), some (.int (Int32.ofNat b))]) (st1 := [.int 2]) (s1 := z.2) rfl ?_
      rw [kF]
      exact UP.ret (r := some (.int 2)) rfl ⟨rfl, ⟨fun c e => (by cases e), fun c d e => (by cases e; exact ⟨(z3 0).trans p0, (z3 1).trans p1⟩)⟩, z1⟩
theorem mpO {c : SG} {N : Nat} (g : KG c) (hN : N ≤ 8) (eN : c 2 3 = Int32.ofNat N) : ∀ (n a : Nat) (w : SG) (v2 : Option Value), a + n = N → MtE c w → UP m_X7_spareBy 31 [some (.ref 123), some (.int (Int32.ofNat a)), v2] [] w (MPs c ((sff (fun a b => agN c (mk2 N a b)) N n a).map some)) := by
  intro n
  induction n with
  | zero =>
    intro a w v2 ha hm
    have e : a = N := by omega
    subst e
    refine UP.stp 3 (i1 := 34) (L1 := [some (.ref 123), some (.int (Int32.ofNat a)), v2]) (st1 := [.int (w 123 11), .int (Int32.ofNat a)]) (s1 := w) rfl ?_
    rw [n11 g.2.2.1 eN hm]
    refine UP.icT rfl geT' ?_
    refine UP.stp 1 (i1 := 70) (L1 := [some (.ref 123), some (.int (Int32.ofNat a)), v2]) (st1 := [.int (-1)]) (s1 := w) rfl ?_
    exact UP.ret (r := some (.int (-1))) rfl ⟨rfl, ⟨fun c e => (by cases e), fun c d e => (by cases e)⟩, hm⟩
  | succ n ih =>
    intro a w v2 ha hm
    refine UP.stp 3 (i1 := 34) (L1 := [some (.ref 123), some (.int (Int32.ofNat a)), v2]) (st1 := [.int (w 123 11), .int (Int32.ofNat a)]) (s1 := w) rfl ?_
    rw [n11 g.2.2.1 eN hm]
    refine UP.icF rfl (geF' (by omega) (by omega)) ?_
    refine UP.stp 4 (i1 := 39) (L1 := [some (.ref 123), some (.int (Int32.ofNat a)), some (.int (Int32.ofNat a + 1))]) (st1 := []) (s1 := w) rfl ?_
    rw [ofn_s, sff_s]
    exact mpI g hN eN a (by omega) _ (fun w2 x2 m2 => by
      refine UP.stp 2 (i1 := 31) (L1 := [some (.ref 123), some (.int (Int32.ofNat a + 1)), x2]) (st1 := []) (s1 := w2) rfl ?_
      rw [ofn_s]
      exact ih (a + 1) w2 _ (by omega) m2) (N - (a + 1)) (a + 1) w (by omega) hm
theorem mp1 {c : SG} {N : Nat} (g : KG c) (hN : N ≤ 8) (eN : c 2 3 = Int32.ofNat N) : ∀ (n a : Nat) (w : SG) (v2 : Option Value), a + n = N → MtE c w → UP m_X7_spareBy 10 [some (.ref 123), some (.int (Int32.ofNat a)), v2] [] w (MPs c ((sfi (fun a => agN c (mk1 N a)) n a).elim ((sff (fun a b => agN c (mk2 N a b)) N N 0).map some) (fun a => some (some (a, none))))) := by
  intro n
  induction n with
  | zero =>
    intro a w v2 ha hm
    have e : a = N := by omega
    subst e
    refine UP.stp 3 (i1 := 13) (L1 := [some (.ref 123), some (.int (Int32.ofNat a)), v2]) (st1 := [.int (w 123 11), .int (Int32.ofNat a)]) (s1 := w) rfl ?_
    rw [n11 g.2.2.1 eN hm]
    refine UP.icT rfl geT' ?_
    refine UP.stp 2 (i1 := 31) (L1 := [some (.ref 123), some (.int (Int32.ofNat 0)), v2]) (st1 := []) (s1 := w) rfl ?_
    exact mpO g hN eN a 0 w _ (by omega) hm
  | succ n ih =>
    intro a w v2 ha hm
    refine UP.stp 3 (i1 := 13) (L1 := [some (.ref 123), some (.int (Int32.ofNat a)), v2]) (st1 := [.int (w 123 11), .int (Int32.ofNat a)]) (s1 := w) rfl ?_
    rw [n11 g.2.2.1 eN hm]
    refine UP.icF rfl (geF' (by omega) (by omega)) ?_
    refine UP.stp 9 (i1 := 23) (L1 := [some (.ref 123), some (.int (Int32.ofNat a)), v2]) (st1 := [.int (enB a), .ref 123]) (s1 := uset w 144 0 (Int32.ofNat a)) rfl ?_
    have p0 : uset w 144 0 (Int32.ofNat a) 144 0 = Int32.ofNat a := uset_eq _ _ _ _
    have hm2 := hm.pl 0 (Int32.ofNat a)
    generalize uset w 144 0 (Int32.ofNat a) = w2 at *
    refine UP.cB (M1 := m_X7_isSpared) (as := [.ref 123, .int (enB a)]) (rest := []) (T := F_isSpared w2 (enB a)) rfl rfl (ux_isSpared w2 (enB a)) (fun z e => ?_)
    obtain ⟨z1, z2, z3⟩ := isp g eN hN hm2 (mask := mk1 N a) (m1_k N (by omega) a (by omega)) e
    rw [sfi_s]
    cases q : agN c (mk1 N a) with
    | true =>
      rw [q] at z2
      refine UP.ifT rfl z2 ?_
      refine UP.stp 2 (i1 := 10) (L1 := [some (.ref 123), some (.int (Int32.ofNat a + 1)), v2]) (st1 := []) (s1 := z.2) rfl ?_
      rw [ofn_s, kT]
      exact ih (a + 1) z.2 _ (by omega) z1
    | false =>
      rw [q] at z2
      refine UP.ifF rfl z2 ?_
      refine UP.stp 1 (i1 := 26) (L1 := [some (.ref 123), some (.int (Int32.ofNat a)), v2]) (st1 := [.int 1]) (s1 := z.2) rfl ?_
      rw [kF]
      exact UP.ret (r := some (.int 1)) rfl ⟨rfl, ⟨fun c e => (by cases e; exact (z3 0).trans p0), fun c d e => (by cases e)⟩, z1⟩
theorem ux_spareBy {c : SG} {N : Nat} (g : KG c) (hN : N ≤ 8) (eN : c 2 3 = Int32.ofNat N) : UP m_X7_spareBy 0 (m_ent 3 [.ref 123]) [] c (MPs c (rS c N)) := by
  unfold rS spR
  refine UP.stp 1 (i1 := 1) (L1 := [some (.ref 123), none, none]) (st1 := [.ref 123]) (s1 := c) rfl ?_
  refine UP.cV (M1 := m_X7_asTold) (as := [.ref 123]) (rest := []) (T := F_asTold c) rfl rfl (ux_asTold c) (fun y e => ?_)
  have hm : MtE c y := ⟨0, by rw [← e]; exact mtTold g.1.1 g.2.1⟩
  refine UP.stp 2 (i1 := 4) (L1 := [some (.ref 123), none, none]) (st1 := [.int 0, .ref 123]) (s1 := y) rfl ?_
  refine UP.cB (M1 := m_X7_isSpared) (as := [.ref 123, .int 0]) (rest := []) (T := F_isSpared y 0) rfl rfl (ux_isSpared y 0) (fun z e2 => ?_)
  obtain ⟨z1, z2, z3⟩ := isp g eN hN hm (mask := allM N) (al_k N (by omega)) e2
  cases q : agN c (allM N) with
  | true =>
    rw [q] at z2
    refine UP.ifT rfl z2 ?_
    refine UP.stp 2 (i1 := 10) (L1 := [some (.ref 123), some (.int (Int32.ofNat 0)), none]) (st1 := []) (s1 := z.2) rfl ?_
    rw [kT]
    exact mp1 g hN eN N 0 z.2 _ (by omega) z1
  | false =>
    rw [q] at z2
    refine UP.ifF rfl z2 ?_
    refine UP.stp 1 (i1 := 7) (L1 := [some (.ref 123), none, none]) (st1 := [.int 0]) (s1 := z.2) rfl ?_
    rw [kF]
    exact UP.ret (r := some (.int 0)) rfl ⟨rfl, ⟨fun c e => (by cases e), fun c d e => (by cases e)⟩, z1⟩
end
section
/-! spare: both answers -/
def z0S : SG := fun _ _ => 0
theorem ithC (s : SG) (b i : Int32) : F_ithBit s b i = F_ithBit z0S b i := by
  have e : B_ithBit_4 b i s = B_ithBit_4 b i z0S := rfl
  unfold F_ithBit
  rw [e]
def svC (r : SPR) (i : Int32) : Int32 := bif m_cmp .ne (enCs r) (-1) then (bif m_cmp .ne i (-1) then F_ithBit z0S (enCs r) i else bcF (enCs r)) else -1
def okI (i : Int32) : Bool := bif m_cmp .lt i (-1) then false else m_cmp .lt i 2
theorem ux_spareC {s : SG} {N : Nat} (h : KF s) (hN : N ≤ 8) (eN : s 2 3 = Int32.ofNat N) (i : Int32) : UP m_X6_spare 0 (m_ent 3 [.ref 0, .int i]) [] s (fun v s1 => v = some (.int (bif okI i then svC (rS s N) i else -2)) ∧ KF s1 ∧ Ag DG s s1) := by
  refine UP.stp 2 (i1 := 2) (L1 := [some (.ref 0), some (.int i), none]) (st1 := [.int (-1), .int i]) (s1 := s) rfl ?_
  unfold okI
  cases c1 : m_cmp .lt i (-1) with
  | true =>
    refine UP.icT rfl c1 ?_
    refine UP.stp 1 (i1 := 7) (L1 := [some (.ref 0), some (.int i), none]) (st1 := [.int (-2)]) (s1 := s) rfl ?_
    exact UP.ret (r := some (.int (-2))) rfl ⟨rfl, h, Ag.rf _ _⟩
  | false =>
    refine UP.icF rfl c1 ?_
    refine UP.stp 2 (i1 := 5) (L1 := [some (.ref 0), some (.int i), none]) (st1 := [.int 2, .int i]) (s1 := s) rfl ?_
    cases c2 : m_cmp .lt i 2 with
    | false =>
      refine UP.icF rfl c2 ?_
      refine UP.stp 1 (i1 := 7) (L1 := [some (.ref 0), some (.int i), none]) (st1 := [.int (-2)]) (s1 := s) rfl ?_
      exact UP.ret (r := some (.int (-2))) rfl ⟨rfl, h, Ag.rf _ _⟩
    | true =>
      refine UP.icT rfl c2 ?_
      refine UP.stp 1 (i1 := 9) (L1 := [some (.ref 0), some (.int i), none]) (st1 := [.ref 0]) (s1 := s) rfl ?_
      refine UP.call (M1 := m_X6_sparedEvents) (as := [.ref 0]) (rest := []) rfl rfl (ux_spared h hN eN) (fun r w q => ?_)
      obtain ⟨rfl, k, a⟩ := q
      rw [kF, kT]
      unfold svC
      generalize enCs (rS s N) = x
      refine UP.stp 3 (i1 := 13) (L1 := [some (.ref 0), some (.int i), some (.int x)]) (st1 := [.int (-1), .int x]) (s1 := w) rfl ?_
      cases c3 : m_cmp .ne x (-1) with
      | false =>
        refine UP.icF rfl c3 ?_
        refine UP.stp 1 (i1 := 15) (L1 := [some (.ref 0), some (.int i), some (.int x)]) (st1 := [.int (-1)]) (s1 := w) rfl ?_
        exact UP.ret (r := some (.int (-1))) rfl ⟨rfl, k, a⟩
      | true =>
        refine UP.icT rfl c3 ?_
        refine UP.stp 2 (i1 := 18) (L1 := [some (.ref 0), some (.int i), some (.int x)]) (st1 := [.int (-1), .int i]) (s1 := w) rfl ?_
        rw [kT]
        cases c4 : m_cmp .ne i (-1) with
        | true =>
          refine UP.icT rfl c4 ?_
          refine UP.stp 2 (i1 := 24) (L1 := [some (.ref 0), some (.int i), some (.int x)]) (st1 := [.int i, .int x]) (s1 := w) rfl ?_
          refine UP.cI (M1 := m_X6_ithBit) (as := [.int x, .int i]) (rest := []) (T := F_ithBit w x i) rfl rfl (ux_ithBit w x i) ?_
          rw [ithC w x i, kT]
          exact UP.ret (r := some (.int (F_ithBit z0S x i))) rfl ⟨rfl, k, a⟩
        | false =>
          refine UP.icF rfl c4 ?_
          refine UP.stp 1 (i1 := 20) (L1 := [some (.ref 0), some (.int i), some (.int x)]) (st1 := [.int x]) (s1 := w) rfl ?_
          refine UP.cI (M1 := m_J6_bitCount_0f7a4) (as := [.int x]) (rest := []) (T := bcF x) rfl rfl (ux_bitCount w x) ?_
          rw [kF]
          refine UP.stp 1 (i1 := 25) (L1 := [some (.ref 0), some (.int i), some (.int x)]) (st1 := [.int (bcF x)]) (s1 := w) rfl ?_
          exact UP.ret (r := some (.int (bcF x))) rfl ⟨rfl, k, a⟩
theorem in11 (s : SG) (i : Int32) : m_cmp .eq (F_in s i (-1) 1) 0 = !(okI i) := by
  have e : m_cmp .gt i 1 = !(m_cmp .lt i 2) := by
    have e1 : (1 : Int32).toInt = 1 := by decide
    have e2 : (2 : Int32).toInt = 2 := by decide
    cases q : m_cmp .lt i 2 with
    | true =>
      have := m_lt_iff.mp q
      cases w : m_cmp .gt i 1 with
      | false => rfl
      | true =>
        have := m_gt_iff.mp w
        omega
    | false =>
      have := m_ff m_lt_iff q
      exact m_gt_iff.mpr (by omega)
  have eF : F_in s i (-1) 1 = bif m_cmp .lt i (-1) then (0 : Int32) else (bif m_cmp .gt i 1 then (0 : Int32) else (1 : Int32)) := rfl
  rw [eF, e]
  unfold okI
  cases m_cmp .lt i (-1) with
  | true => rfl
  | false =>
    cases m_cmp .lt i 2 <;> rfl
theorem ux_spareM {c : SG} {N : Nat} (k : KF c) (hN : N ≤ 8) (eN : c 2 3 = Int32.ofNat N) (i : Int32) : UP m_X7_spare 0 (m_ent 2 [.ref 123, .int i]) [] c (fun v s2 => v = some (.int (bif okI i then F_ofRow s2 (enMs (rS c N)) i else -2)) ∧ (okI i = true → plnR (rS c N) s2) ∧ KF s2) := by
  refine UP.stp 3 (i1 := 3) (L1 := [some (.ref 123), some (.int i)]) (st1 := [.int 1, .int (-1), .int i]) (s1 := c) rfl ?_
  refine UP.cI (M1 := m_X7_in) (as := [.int i, .int (-1), .int 1]) (rest := []) (T := F_in c i (-1) 1) rfl rfl (ux_in c i (-1) 1) ?_
  cases q : okI i with
  | false =>
    refine UP.ifT rfl (by rw [in11, q]; rfl) ?_
    refine UP.stp 1 (i1 := 12) (L1 := [some (.ref 123), some (.int i)]) (st1 := [.int (-2)]) (s1 := c) rfl ?_
    exact UP.ret (r := some (.int (-2))) rfl ⟨rfl, fun w => (by cases w), k⟩
  | true =>
    refine UP.ifF rfl (by rw [in11, q]; rfl) ?_
    refine UP.stp 2 (i1 := 7) (L1 := [some (.ref 123), some (.int i)]) (st1 := [.ref 123, .ref 123]) (s1 := c) rfl ?_
    refine UP.call (M1 := m_X7_spareBy) (as := [.ref 123]) (rest := [.ref 123]) rfl rfl (ux_spareBy k.1 hN eN) (fun r w p => ?_)
    obtain ⟨rfl, pl, x, m⟩ := p
    generalize rS c N = r0 at *
    refine UP.stp 1 (i1 := 9) (L1 := [some (.ref 123), some (.int i)]) (st1 := [.int i, .int (enMs r0), .ref 123]) (s1 := w) rfl ?_
    refine UP.cI (M1 := m_X7_ofRow) (as := [.ref 123, .int (enMs r0), .int i]) (rest := []) (T := F_ofRow w (enMs r0) i) rfl rfl (ux_ofRow w (enMs r0) i) ?_
    refine UP.stp 1 (i1 := 12) (L1 := [some (.ref 123), some (.int i)]) (st1 := [.int (F_ofRow w (enMs r0) i)]) (s1 := w) rfl ?_
    exact UP.ret (r := some (.int (F_ofRow w (enMs r0) i))) rfl ⟨by rw [kT], fun _ => pl, k.ag (m.2.2.2.2.2.ag DF rfl)⟩
theorem rS_ok (s : SG) (N : Nat) : okR N (rS s N) := spR_ok (agN s (allM N)) (fun a => agN s (mk1 N a)) (fun a b => agN s (mk2 N a b)) N
theorem bc0 : bcF 0 = 0 ∧ F_ithBit z0S 0 0 = -1 ∧ F_ithBit z0S 0 1 = -1 := by decide +kernel
theorem bc1 : ∀ a, a < 8 → m_cmp .ne (enB a) (-1) = true ∧ bcF (enB a) = 1 ∧ F_ithBit z0S (enB a) 0 = Int32.ofNat a ∧ F_ithBit z0S (enB a) 1 = -1 := by decide +kernel
theorem bc2 : ∀ a, a < 8 → ∀ b, b < 8 → a < b → m_cmp .ne (enB a ||| enB b) (-1) = true ∧ bcF (enB a ||| enB b) = 2 ∧ F_ithBit z0S (enB a ||| enB b) 0 = Int32.ofNat a ∧ F_ithBit z0S (enB a ||| enB b) 1 = Int32.ofNat b := by decide +kernel
theorem okI3 {i : Int32} (h : okI i = true) : i = -1 ∨ i = 0 ∨ i = 1 := by
  unfold okI at h
  have e1 : (-1 : Int32).toInt = -1 := by decide
  have e2 : (2 : Int32).toInt = 2 := by decide
  have e3 : (0 : Int32).toInt = 0 := by decide
  have e4 : (1 : Int32).toInt = 1 := by decide
  cases q : m_cmp .lt i (-1) with
  | true => rw [q] at h; cases h
  | false =>
    rw [q] at h
    have h : m_cmp .lt i 2 = true := h
    have q := m_ff m_lt_iff q
    have h := m_lt_iff.mp h
    have w : i.toInt = (-1 : Int32).toInt ∨ i.toInt = (0 : Int32).toInt ∨ i.toInt = (1 : Int32).toInt := by omega
    rcases w with w | w | w
    · exact Or.inl (Int32.toInt_inj.mp w)
    · exact Or.inr (Or.inl (Int32.toInt_inj.mp w))
    · exact Or.inr (Or.inr (Int32.toInt_inj.mp w))
theorem svE {N : Nat} (hN : N ≤ 8) {r : SPR} (o : okR N r) {s : SG} (p : plnR r s) {i : Int32} (h : okI i = true) : svC r i = F_ofRow s (enMs r) i := by
  have eO : ∀ n j : Int32, F_ofRow s n j = bif m_cmp .ne j (-1) then (bif m_cmp .ge j n then (-1 : Int32) else s 144 j.toNatClampNeg) else n := fun _ _ => rfl
  have n1 : m_cmp .ne (-1 : Int32) (-1) = false := rfl
  have n2 : m_cmp .ne (0 : Int32) (-1) = true := rfl
  have n3 : m_cmp .ne (1 : Int32) (-1) = true := rfl
  have c0 : (0 : Int32).toNatClampNeg = 0 := rfl
  have c1 : (1 : Int32).toNatClampNeg = 1 := rfl
  unfold svC
  rw [eO]
  match r, o, p with
  | none, _, _ =>
    show (bif m_cmp .ne (-1) (-1) then _ else (-1 : Int32)) = bif m_cmp .ne i (-1) then (bif m_cmp .ge i (-1) then (-1 : Int32) else _) else (-1)
    rw [n1, kF]
    rcases okI3 h with rfl | rfl | rfl
    · rw [n1, kF]
    · rw [n2, kT, show m_cmp .ge (0 : Int32) (-1) = true from rfl, kT]
    · rw [n3, kT, show m_cmp .ge (1 : Int32) (-1) = true from rfl, kT]
  | some none, _, _ =>
    show (bif m_cmp .ne 0 (-1) then (bif m_cmp .ne i (-1) then F_ithBit z0S 0 i else bcF 0) else (-1 : Int32)) = bif m_cmp .ne i (-1) then (bif m_cmp .ge i 0 then (-1 : Int32) else _) else 0
    rw [n2, kT]
    rcases okI3 h with rfl | rfl | rfl
    · rw [n1, kF, kF]; exact bc0.1
    · rw [n2, kT, kT, show m_cmp .ge (0 : Int32) 0 = true from rfl, kT]; exact bc0.2.1
    · rw [n3, kT, kT, show m_cmp .ge (1 : Int32) 0 = true from rfl, kT]; exact bc0.2.2
  | some (some (a, none)), o, p =>
    have o : a < N := o.1 a rfl
    have p : s 144 0 = Int32.ofNat a := p.1 a rfl
    obtain ⟨d1, d2, d3, d4⟩ := bc1 a (by omega)
    show (bif m_cmp .ne (enB a) (-1) then (bif m_cmp .ne i (-1) then F_ithBit z0S (enB a) i else bcF (enB a)) else (-1 : Int32)) = bif m_cmp .ne i (-1) then (bif m_cmp .ge i 1 then (-1 : Int32) else _) else 1
    rw [d1, kT]
    rcases okI3 h with rfl | rfl | rfl
    · rw [n1, kF, kF]; exact d2
    · rw [n2, kT, kT, show m_cmp .ge (0 : Int32) 1 = false from rfl, kF, c0, p]; exact d3
    · rw [n3, kT, kT, show m_cmp .ge (1 : Int32) 1 = true from rfl, kT]; exact d4
  | some (some (a, some b)), o, p =>
    have o : a < b ∧ b < N := o.2 a b rfl
    have p : s 144 0 = Int32.ofNat a ∧ s 144 1 = Int32.ofNat b := p.2 a b rfl
    obtain ⟨d1, d2, d3, d4⟩ := bc2 a (by omega) b (by omega) o.1
    show (bif m_cmp .ne (enB a ||| enB b) (-1) then (bif m_cmp .ne i (-1) then F_ithBit z0S (enB a ||| enB b) i else bcF (enB a ||| enB b)) else (-1 : Int32)) = bif m_cmp .ne i (-1) then (bif m_cmp .ge i 2 then (-1 : Int32) else _) else 2
    rw [d1, kT]
    rcases okI3 h with rfl | rfl | rfl
    · rw [n1, kF, kF]; exact d2
    · rw [n2, kT, kT, show m_cmp .ge (0 : Int32) 2 = false from rfl, kF, c0, p.1]; exact d3
    · rw [n3, kT, kT, show m_cmp .ge (1 : Int32) 2 = false from rfl, kF, c1, p.2]; exact d4
theorem pe_spare {h : MH} (hJ : JK h) (a : Int32) (p : PairOK J1 TA 55 155 [.int a] h) : PairOK JK TE 55 155 [.int a] h := by
  have E := hJ.2.1.2.2.1
  obtain ⟨N, hN, eN⟩ := lenO E.2.1 E.2.2.1
  refine PairOK.up (K := KF) (T' := TE) (M1 := m_X6_spare) (M2 := m_X7_spare) (QX := fun v s1 => v = some (.int (bif okI a then svC (rS (cI h) N) a else -2)) ∧ KF s1 ∧ Ag DG (cI h) s1) (QY := fun _ s1 v s2 => v = some (.int (bif okI a then F_ofRow s2 (enMs (rS s1 N)) a else -2)) ∧ (okI a = true → plnR (rS s1 N) s2) ∧ KF s2) p hJ.1 rfl rfl (by decide) (by decide) (ux_spareC hJ.2 hN eN a) (fun r s1 q => ux_spareM q.2.1 hN (n23 eN q.2.2) a) (fun r s1 r2 h2 q w _ _ => ?_)
  obtain ⟨q1, q2, q3⟩ := q
  obtain ⟨w1, w2, w3⟩ := w
  have eR : rS s1 N = rS (cI h) N := by
    have e : agN s1 = agN (cI h) := by
      funext m
      unfold agN
      rw [inC_ag (q3.sub rfl)]
    unfold rS
    rw [e]
  have k2 := rS_ok (cI h) N
  rw [eR] at w1 w2
  generalize rS (cI h) N = r0 at *
  refine ⟨⟨_, q1, ?_⟩, w3⟩
  rw [w1]
  cases o : okI a with
  | false => rw [kF, kF]
  | true => rw [kT, kT, svE hN k2 (w2 o) o]
end
section
/-! chance: the class's side, and the arithmetic of both -/
def W_weightOf : List (Nat × Nat × Option Nat) := []
def B_weightOf_4 (mask : Int32) (c : Int32) (s : SG) (i1 : Nat) (a1 : Int64) : Int64 := let v3 := bif m_cmp .eq (F_hasBit s mask (Int32.ofNat i1)) 0 then (16 - c).toInt64 else c.toInt64; let v4 := a1 * v3; v4
def F_weightOf (s : SG) (mask : Int32) (c : Int32) : Int64 := let z1 := itr (B_weightOf_4 mask c s) 0 ((s 2 3).toNatClampNeg) (1 : Int64); z1
theorem ux_weightOf (s : SG) (mask : Int32) (c : Int32)  : UP m_X6_weightOf 0 (m_ent 6 [.ref 0, .int mask, .int c]) [] s (Qj s (F_weightOf s mask c)) := by
  refine UP.stp 4 (i1 := 4) (L1 := [some (.ref 0), some (.int mask), some (.int c), some (.long 1), none, some (.int 0)]) (st1 := []) (s1 := s) rfl ?_
  refine lp (fun (i1 : Nat) (a1 : Int64) => ∀ (u1_4 : Option Value), UP m_X6_weightOf 4 [some (.ref 0), some (.int mask), some (.int c), some (.long a1), u1_4, some (.int (Int32.ofNat i1))] [] s (Qj s (F_weightOf s mask c))) (fun (_ : Nat) (a1 : Int64) => Fr W_weightOf s s) (B_weightOf_4 mask c s) ((s 2 3).toNatClampNeg) (fun i1 a1 hi1 g1 => g1) (fun i1 a1 hi1 g1 kk => ?_) ((s 2 3).toNatClampNeg) (0) (1 : Int64) (by  omega) (Fr.rf _ _) (fun z1 e1 g1 => ?_) none
  · skip
    intro u1_4
    have hbi1 := cl_lt (s 2 3)
    refine UP.stp 4 (i1 := 8) (L1 := [some (.ref 0), some (.int mask), some (.int c), some (.long a1), u1_4, some (.int (Int32.ofNat i1))]) (st1 := [.int (s 2 3), .int (Int32.ofNat i1)]) (s1 := s) rfl ?_
    refine UP.icF rfl (ge_F hi1) ?_
    refine UP.stp 3 (i1 := 12) (L1 := [some (.ref 0), some (.int mask), some (.int c), some (.long a1), u1_4, some (.int (Int32.ofNat i1))]) (st1 := [.int (Int32.ofNat i1), .int mask, .long a1]) (s1 := s) rfl ?_
    refine UP.cI (M1 := m_X6_hasBit) (as := [.int mask, .int (Int32.ofNat i1)]) (rest := [.long a1]) (T := F_hasBit s mask (Int32.ofNat i1)) rfl rfl (ux_hasBit s mask (Int32.ofNat i1)) ?_
    refine mrg (m_cmp .eq (F_hasBit s mask (Int32.ofNat i1)) 0) ((16 - c).toInt64) c.toInt64 (fun v3 : Int64 => UP m_X6_weightOf 21 [some (.ref 0), some (.int mask), some (.int c), some (.long a1), u1_4, some (.int (Int32.ofNat i1))] [.long v3, .long a1] s (Qj s (F_weightOf s mask c))) (fun cc kk => ?_) (fun cc kk => ?_) (fun v3 e3 => ?_)
    · skip
      refine UP.ifT rfl cc ?_
      refine UP.stp 4 (i1 := 21) (L1 := [some (.ref 0), some (.int mask), some (.int c), some (.long a1), u1_4, some (.int (Int32.ofNat i1))]) (st1 := [.long ((16 - c).toInt64), .long a1]) (s1 := s) rfl ?_
      exact kk
    · skip
      refine UP.ifF rfl cc ?_
      refine UP.stp 3 (i1 := 21) (L1 := [some (.ref 0), some (.int mask), some (.int c), some (.long a1), u1_4, some (.int (Int32.ofNat i1))]) (st1 := [.long c.toInt64, .long a1]) (s1 := s) rfl ?_
      exact kk
    refine UP.stp 1 (i1 := 22) (L1 := [some (.ref 0), some (.int mask), some (.int c), some (.long a1), u1_4, some (.int (Int32.ofNat i1))]) (st1 := [.long (a1 * v3)]) (s1 := s) rfl ?_
    refine nm (G := fun v4 => UP m_X6_weightOf 22 [some (.ref 0), some (.int mask), some (.int c), some (.long a1), u1_4, some (.int (Int32.ofNat i1))] [.long v4] s (Qj s (F_weightOf s mask c))) (a1 * v3) (fun v4 e4 => ?_)
    refine UP.stp 3 (i1 := 4) (L1 := [some (.ref 0), some (.int mask), some (.int c), some (.long v4), u1_4, some (.int ((Int32.ofNat i1) + 1))]) (st1 := []) (s1 := s) rfl ?_
    subst e4 e3
    rw [ofn_s]
    try dsimp only [B_weightOf_4] at kk
    exact kk _
  intro u1_4
  refine UP.stp 4 (i1 := 8) (L1 := [some (.ref 0), some (.int mask), some (.int c), some (.long z1), u1_4, some (.int (Int32.ofNat ((s 2 3).toNatClampNeg)))]) (st1 := [.int (s 2 3), .int (Int32.ofNat ((s 2 3).toNatClampNeg))]) (s1 := s) rfl ?_
  refine UP.icT rfl (ge_T _) ?_
  refine UP.stp 1 (i1 := 26) (L1 := [some (.ref 0), some (.int mask), some (.int c), some (.long z1), u1_4, some (.int (Int32.ofNat ((s 2 3).toNatClampNeg)))]) (st1 := [.long z1]) (s1 := s) rfl ?_
  exact UP.ret (r := some (.long z1)) rfl ⟨by subst e1; first | (dsimp only [F_weightOf]; done) | (dsimp only; done) | rfl, by subst e1; first | (dsimp only [F_weightOf]; done) | (dsimp only; done) | rfl⟩
theorem l_int {n : Nat} (h : n < 4611686018427387904) : (Int64.ofNat n).toInt = (n : Int) := Int64.toInt_ofNat_of_lt (by omega)
theorem l_ne {b : Nat} (h : b < 4611686018427387904) : Int64.ofNat b ≠ -1 := fun e => by
  have e := congrArg Int64.toInt e
  rw [l_int h] at e
  have e2 : (-1 : Int64).toInt = -1 := by decide
  omega
theorem l_ne0 {b : Nat} (h : b < 4611686018427387904) (h0 : 0 < b) : Int64.ofNat b ≠ 0 := fun e => by
  have e := congrArg Int64.toInt e
  rw [l_int h] at e
  have e2 : (0 : Int64).toInt = 0 := by decide
  omega
theorem l_div {a b : Nat} (ha : a < 4611686018427387904) (hb : b < 4611686018427387904) : Int64.ofNat a / Int64.ofNat b = Int64.ofNat (a / b) := by
  apply Int64.toInt_inj.mp
  have l : a / b ≤ a := Nat.div_le_self a b
  rw [Int64.toInt_div_of_ne_right _ _ (l_ne hb), l_int ha, l_int hb, l_int (by omega)]
  rfl
theorem l_rem {a b : Nat} (ha : a < 4611686018427387904) (hb : b < 4611686018427387904) : Int64.ofNat a - Int64.ofNat a / Int64.ofNat b * Int64.ofNat b = Int64.ofNat (a % b) := by
  rw [l_div ha hb, ← Int64.ofNat_mul]
  have e : a = a % b + a / b * b := by
    have := Nat.div_add_mod' a b
    omega
  have e2 : Int64.ofNat a = Int64.ofNat (a % b) + Int64.ofNat (a / b * b) := by
    rw [← Int64.ofNat_add]
    exact congrArg Int64.ofNat e
  rw [e2, Int64.add_sub_cancel]
theorem UP.jd {M : MM} {i : Nat} {L : ML} {st : List Value} {s : SG} {P : Option Value → SG → Prop} {pc len : Nat} {ops : List Int} {x y : Int64} (hrow : (mc M)[i]? = some (pc, .lrem, len, ops)) (hy : y ≠ 0) (k : UP M (i + 1) L (.long (x - x / y * y) :: st) s P) : UP M i L (.long y :: .long x :: st) s P := by
  refine UP.one ?_ k
  unfold ustep
  rw [hrow]
  show (if y = 0 then none else o_nx i [] (.long (x - x / y * y) :: st) []).map (uo L s) = _
  rw [if_neg hy]
  rfl
theorem UP.jv {M : MM} {i : Nat} {L : ML} {st : List Value} {s : SG} {P : Option Value → SG → Prop} {pc len : Nat} {ops : List Int} {x y : Int64} (hrow : (mc M)[i]? = some (pc, .ldiv, len, ops)) (hy : y ≠ 0) (k : UP M (i + 1) L (.long (x / y) :: st) s P) : UP M i L (.long y :: .long x :: st) s P := by
  refine UP.one ?_ k
  unfold ustep
  rw [hrow]
  show (if y = 0 then none else o_nx i [] (.long (x / y) :: st) []).map (uo L s) = _
  rw [if_neg hy]
  rfl
/-! weights -/
def wN (N C : Nat) (b : Nat → Bool) : Nat := itr (fun e x => x * (bif b e then C else 16 - C)) 0 N 1
theorem wN_s (N C : Nat) (b : Nat → Bool) : wN (N + 1) C b = wN N C b * (bif b N then C else 16 - C) := itr_0 _ _ _
theorem wN_b {C : Nat} (hC : C ≤ 16) (b : Nat → Bool) (N : Nat) : wN N C b ≤ 16 ^ N := by
  induction N with
  | zero => exact Nat.le_refl 1
  | succ N ih =>
    rw [wN_s, Nat.pow_succ]
    refine Nat.mul_le_mul ih ?_
    cases b N with
    | true => rw [kT]; exact hC
    | false => rw [kF]; omega
theorem wN_c {C N : Nat} {b d : Nat → Bool} (h : ∀ e, e < N → b e = d e) : wN N C b = wN N C d := by
  induction N with
  | zero => unfold wN; rw [itr_z, itr_z]
  | succ N ih => rw [wN_s, wN_s, ih (fun e he => h e (by omega)), h N (by omega)]
theorem p16 {N : Nat} (h : N ≤ 8) : 16 ^ N ≤ 4294967296 := Nat.le_trans (Nat.pow_le_pow_right (by decide) h) (by decide)
theorem c64 {C : Nat} (hC : C ≤ 16) : (Int32.ofNat C).toInt64 = Int64.ofNat C ∧ (16 - Int32.ofNat C).toInt64 = Int64.ofNat (16 - C) := by
  have e16 : (16 : Int32).toInt = 16 := by decide
  have eC : (Int32.ofNat C).toInt = (C : Int) := ofn_int (by omega)
  refine ⟨?_, ?_⟩
  · apply Int64.toInt_inj.mp
    rw [Int32.toInt_toInt64, eC, l_int (by omega)]
  · apply Int64.toInt_inj.mp
    rw [Int32.toInt_toInt64, i32_sub (by omega) (by omega), eC, e16, l_int (by omega)]
    omega
def bitB (m : Int32) (e : Nat) : Bool := m_cmp .ne ((m >>> ((Int32.ofNat e) &&& 31)) &&& 1) 0
theorem woC {w : SG} {N C : Nat} (hN : N ≤ 8) (eN : w 2 3 = Int32.ofNat N) (hC : C ≤ 16) (m : Int32) : F_weightOf w m (Int32.ofNat C) = Int64.ofNat (wN N C (bitB m)) := by
  have cN : (w 2 3).toNatClampNeg = N := by rw [eN]; exact ofn_c (by omega)
  have eF : F_weightOf w m (Int32.ofNat C) = itr (B_weightOf_4 m (Int32.ofNat C) w) 0 ((w 2 3).toNatClampNeg) (1 : Int64) := rfl
  rw [eF, cN]
  clear eF cN eN
  induction N with
  | zero => unfold wN; rw [itr_z, itr_z]; rfl
  | succ N ih =>
    rw [itr_0, ih (by omega), wN_s, Int64.ofNat_mul]
    have eB : B_weightOf_4 m (Int32.ofNat C) w N (Int64.ofNat (wN N C (bitB m))) = Int64.ofNat (wN N C (bitB m)) * (bif m_cmp .eq (F_hasBit w m (Int32.ofNat N)) 0 then (16 - Int32.ofNat C).toInt64 else (Int32.ofNat C).toInt64) := rfl
    have eH : m_cmp .eq (F_hasBit w m (Int32.ofNat N)) 0 = !(bitB m N) := by
      have e : F_hasBit w m (Int32.ofNat N) = F_isIn w m (Int32.ofNat N) := rfl
      rw [e, eq_ne, isIn_bit]
      rfl
    rw [eB, eH, (c64 hC).1, (c64 hC).2]
    cases bitB m N with
    | true => rw [lT, kF, kT]
    | false => rw [lF, kT, kF]
def agB (s : SG) (mi mask : Int32) : Bool := bif m_cmp .eq (gfi (inC_a s mask) 24) (-1) then false else !(m_cmp .gt (gfi (inC_a s mask) 24) mi)
def gN (s : SG) (N C : Nat) (mi : Int32) (m : Nat) : Nat := if wN N C (bitB (Int32.ofNat m)) = 0 then 0 else (bif agB s mi (Int32.ofNat m) then wN N C (bitB (Int32.ofNat m)) else 0)
def smN (g : Nat → Nat) (k : Nat) : Nat := itr (fun m x => x + g m) 0 k 0
theorem smN_s (g : Nat → Nat) (k : Nat) : smN g (k + 1) = smN g k + g k := itr_0 _ _ _
theorem smN_b {g : Nat → Nat} {B : Nat} (h : ∀ m, g m ≤ B) (k : Nat) : smN g k ≤ k * B := by
  induction k with
  | zero => unfold smN; rw [itr_z]; omega
  | succ k ih =>
    rw [smN_s, Nat.succ_mul]
    have := h k
    omega
theorem gN_b (s : SG) {N C : Nat} (hN : N ≤ 8) (hC : C ≤ 16) (mi : Int32) (m : Nat) : gN s N C mi m ≤ 4294967296 := by
  have b := wN_b hC (bitB (Int32.ofNat m)) N
  have p := p16 hN
  unfold gN
  by_cases w : wN N C (bitB (Int32.ofNat m)) = 0
  · rw [if_pos w]; omega
  · rw [if_neg w]
    cases agB s mi (Int32.ofNat m) with
    | true => rw [kT]; omega
    | false => rw [kF]; omega
theorem iabN {s w : SG} (k : KF w) (a : Ag DG s w) {mi mask : Int32} (hb : bl mask 256 = true) {z : Int32 × SG} (e : F_isAgroundBy w mi mask = z) : KF z.2 ∧ Ag DG s z.2 ∧ m_cmp .eq z.1 0 = !(agB s mi mask) := by
  obtain ⟨f1, f2, f3⟩ := faw k mask
  have eF : F_isAgroundBy w mi mask = (bif m_cmp .eq (F_firstAgroundWith w mask).1 (-1) then (0 : Int32) else (bif m_cmp .gt (F_firstAgroundWith w mask).1 mi then (0 : Int32) else (1 : Int32)), (F_firstAgroundWith w mask).2) := rfl
  rw [eF, f3 hb, inC_ag (a.sub rfl)] at e
  generalize F_firstAgroundWith w mask = y at *
  subst e
  refine ⟨f1, a.tr f2, ?_⟩
  unfold agB
  rw [mkF]
  cases m_cmp .eq (gfi (inC_a s mask) 24) (-1) with
  | true => rfl
  | false =>
    cases m_cmp .gt (gfi (inC_a s mask) 24) mi <;> rfl
theorem leW {w : Nat} (h : w < 4611686018427387904) : m_cmp .le (lg_cmp (Int64.ofNat w) 0) 0 = decide (w = 0) := by
  have e0 : (0 : Int64).toInt = 0 := by decide
  by_cases q : w = 0
  · rw [decide_eq_true q]
    exact lgc_le.mpr (by rw [l_int h, e0]; omega)
  · rw [decide_eq_false q]
    cases c : m_cmp .le (lg_cmp (Int64.ofNat w) 0) 0 with
    | false => rfl
    | true =>
      have := lgc_le.mp c
      rw [l_int h, e0] at this
      omega
/-! halves -/
def hv : Nat → Nat → Nat → Nat × Nat
  | 0, x, y => (x, y)
  | n + 1, x, y => if y ≤ 1 then (x, y) else if x % 2 = 0 then hv n (x / 2) (y / 2) else (x, y)
theorem hv_s (n x y : Nat) : hv (n + 1) x y = if y ≤ 1 then (x, y) else if x % 2 = 0 then hv n (x / 2) (y / 2) else (x, y) := rfl
theorem hv_g : ∀ (n m x : Nat), m ≤ n → hv n x (2 ^ m) = (x / Nat.gcd x (2 ^ m), 2 ^ m / Nat.gcd x (2 ^ m)) := by
  intro n
  induction n with
  | zero =>
    intro m x h
    have e : m = 0 := by omega
    subst e
    show (x, 1) = (x / Nat.gcd x 1, 1 / Nat.gcd x 1)
    rw [Nat.gcd_one_right, Nat.div_one]
  | succ n ih =>
    intro m x h
    rw [hv_s]
    cases m with
    | zero =>
      rw [if_pos (Nat.le_refl _)]
      show (x, 1) = (x / Nat.gcd x 1, 1 / Nat.gcd x 1)
      rw [Nat.gcd_one_right, Nat.div_one]
    | succ m =>
      have p : 1 ≤ 2 ^ m := Nat.one_le_two_pow
      have e2 : 2 ^ (m + 1) = 2 * 2 ^ m := by rw [Nat.pow_succ, Nat.mul_comm]
      rw [if_neg (by rw [e2]; omega)]
      by_cases w : x % 2 = 0
      · rw [if_pos w]
        have ex : x = 2 * (x / 2) := by omega
        have ey : 2 ^ (m + 1) / 2 = 2 ^ m := by rw [e2]; omega
        rw [ey, ih m (x / 2) (by omega)]
        generalize x / 2 = k at *
        rw [ex, e2, Nat.gcd_mul_left, Nat.mul_div_mul_left _ _ (by decide), Nat.mul_div_mul_left _ _ (by decide)]
      · rw [if_neg w]
        have c2 : Nat.Coprime x 2 := by
          show Nat.gcd x 2 = 1
          rw [Nat.gcd_comm, Nat.gcd_rec, show x % 2 = 1 by omega]
          decide
        have c : Nat.gcd x (2 ^ (m + 1)) = 1 := Nat.Coprime.pow_right (m + 1) c2
        rw [c, Nat.div_one, Nat.div_one]
/-! the class's chance -/
def CPl (s : SG) (T : Int64) (v : Option Value) (s1 : SG) : Prop := v = some (.long T) ∧ KF s1 ∧ Ag DG s s1
theorem pw2 : ∀ N, N < 9 → (1 : Int32) <<< ((Int32.ofNat N) &&& 31) = Int32.ofNat (2 ^ N) ∧ (1 : Int64) <<< ((4 * Int32.ofNat N).toInt64 &&& 63) = Int64.ofNat (2 ^ (4 * N)) := by decide
theorem p256 {N : Nat} (h : N ≤ 8) : 2 ^ N ≤ 256 := Nat.le_trans (Nat.pow_le_pow_right (by decide) h) (by decide)
theorem p32 {N : Nat} (h : N ≤ 8) : 2 ^ (4 * N) ≤ 4294967296 := Nat.le_trans (Nat.pow_le_pow_right (by decide) (show 4 * N ≤ 32 by omega)) (by decide)
def anC (wh : Int32) (p : Nat × Nat) : Int64 := bif m_cmp .ne wh 0 then Int64.ofNat p.2 else Int64.ofNat p.1
theorem hvC {s : SG} (c mi wh : Int32) : ∀ (n i x y : Nat) (w : SG) (u5 u7 : Option Value), i + n = 32 → x < 4611686018427387904 → y < 4611686018427387904 → KF w → Ag DG s w → UP m_X6_chance 55 [some (.ref 0), some (.int c), some (.int mi), some (.int wh), some (.long (Int64.ofNat x)), u5, some (.long (Int64.ofNat y)), u7, some (.int (Int32.ofNat i))] [] w (CPl s (anC wh (hv n x y))) := by
  have fin : ∀ (i x y : Nat) (w : SG) (u5 u7 : Option Value), KF w → Ag DG s w → UP m_X6_chance 78 [some (.ref 0), some (.int c), some (.int mi), some (.int wh), some (.long (Int64.ofNat x)), u5, some (.long (Int64.ofNat y)), u7, some (.int (Int32.ofNat i))] [] w (CPl s (anC wh (x, y))) := by
    intro i x y w u5 u7 hk hw
    refine UP.stp 1 (i1 := 79) (L1 := [some (.ref 0), some (.int c), some (.int mi), some (.int wh), some (.long (Int64.ofNat x)), u5, some (.long (Int64.ofNat y)), u7, some (.int (Int32.ofNat i))]) (st1 := [.int wh]) (s1 := w) rfl ?_
    unfold anC
    cases q : m_cmp .ne wh 0 with
    | true =>
      refine UP.ifT rfl q ?_
      refine UP.stp 1 (i1 := 83) (L1 := [some (.ref 0), some (.int c), some (.int mi), some (.int wh), some (.long (Int64.ofNat x)), u5, some (.long (Int64.ofNat y)), u7, some (.int (Int32.ofNat i))]) (st1 := [.long (Int64.ofNat y)]) (s1 := w) rfl ?_
      exact UP.ret (r := some (.long (Int64.ofNat y))) rfl ⟨rfl, hk, hw⟩
    | false =>
      refine UP.ifF rfl q ?_
      refine UP.stp 2 (i1 := 83) (L1 := [some (.ref 0), some (.int c), some (.int mi), some (.int wh), some (.long (Int64.ofNat x)), u5, some (.long (Int64.ofNat y)), u7, some (.int (Int32.ofNat i))]) (st1 := [.long (Int64.ofNat x)]) (s1 := w) rfl ?_
      exact UP.ret (r := some (.long (Int64.ofNat x))) rfl ⟨rfl, hk, hw⟩
  intro n
  induction n with
  | zero =>
    intro i x y w u5 u7 hi hx hy hk hw
    have e : i = 32 := by omega
    subst e
    refine UP.stp 2 (i1 := 57) (L1 := [some (.ref 0), some (.int c), some (.int mi), some (.int wh), some (.long (Int64.ofNat x)), u5, some (.long (Int64.ofNat y)), u7, some (.int (Int32.ofNat 32))]) (st1 := [.int 32, .int (Int32.ofNat 32)]) (s1 := w) rfl ?_
    refine UP.icT rfl rfl ?_
    exact fin 32 x y w u5 u7 hk hw
  | succ n ih =>
    intro i x y w u5 u7 hi hx hy hk hw
    rw [hv_s]
    refine UP.stp 2 (i1 := 57) (L1 := [some (.ref 0), some (.int c), some (.int mi), some (.int wh), some (.long (Int64.ofNat x)), u5, some (.long (Int64.ofNat y)), u7, some (.int (Int32.ofNat i))]) (st1 := [.int 32, .int (Int32.ofNat i)]) (s1 := w) rfl ?_
    refine UP.icF rfl (ge_F (show i < (32 : Int32).toNatClampNeg from by have : (32 : Int32).toNatClampNeg = 32 := rfl; omega)) ?_
    refine UP.stp 3 (i1 := 61) (L1 := [some (.ref 0), some (.int c), some (.int mi), some (.int wh), some (.long (Int64.ofNat x)), u5, some (.long (Int64.ofNat y)), u7, some (.int (Int32.ofNat i))]) (st1 := [.int (lg_cmp (Int64.ofNat y) 1)]) (s1 := w) rfl ?_
    have e1 : (1 : Int64).toInt = 1 := by decide
    by_cases q : y ≤ 1
    · rw [if_pos q]
      refine UP.ifT rfl (lgc_le.mpr (by rw [l_int hy, e1]; omega)) ?_
      exact fin i x y w u5 u7 hk hw
    · rw [if_neg q]
      have qf : m_cmp .le (lg_cmp (Int64.ofNat y) 1) 0 = false := by
        cases d : m_cmp .le (lg_cmp (Int64.ofNat y) 1) 0 with
        | false => rfl
        | true =>
          have := lgc_le.mp d
          rw [l_int hy, e1] at this
          omega
      refine UP.ifF rfl qf ?_
      refine UP.stp 2 (i1 := 64) (L1 := [some (.ref 0), some (.int c), some (.int mi), some (.int wh), some (.long (Int64.ofNat x)), u5, some (.long (Int64.ofNat y)), u7, some (.int (Int32.ofNat i))]) (st1 := [.long 2, .long (Int64.ofNat x)]) (s1 := w) rfl ?_
      refine UP.jd rfl (by decide) ?_
      have er : Int64.ofNat x - Int64.ofNat x / 2 * 2 = Int64.ofNat (x % 2) := l_rem (b := 2) hx (by decide)
      rw [er]
      refine UP.stp 2 (i1 := 67) (L1 := [some (.ref 0), some (.int c), some (.int mi), some (.int wh), some (.long (Int64.ofNat x)), u5, some (.long (Int64.ofNat y)), u7, some (.int (Int32.ofNat i))]) (st1 := [.int (lg_cmp (Int64.ofNat (x % 2)) 0)]) (s1 := w) rfl ?_
      by_cases r : x % 2 = 0
      · rw [if_pos r, r]
        refine UP.ifF rfl rfl ?_
        refine UP.stp 2 (i1 := 70) (L1 := [some (.ref 0), some (.int c), some (.int mi), some (.int wh), some (.long (Int64.ofNat x)), u5, some (.long (Int64.ofNat y)), u7, some (.int (Int32.ofNat i))]) (st1 := [.long 2, .long (Int64.ofNat x)]) (s1 := w) rfl ?_
        refine UP.jv rfl (by decide) ?_
        have ed : ∀ z : Nat, z < 4611686018427387904 → Int64.ofNat z / 2 = Int64.ofNat (z / 2) := fun z hz => l_div (b := 2) hz (by decide)
        rw [ed x hx]
        refine UP.stp 3 (i1 := 74) (L1 := [some (.ref 0), some (.int c), some (.int mi), some (.int wh), some (.long (Int64.ofNat (x / 2))), u5, some (.long (Int64.ofNat y)), u7, some (.int (Int32.ofNat i))]) (st1 := [.long 2, .long (Int64.ofNat y)]) (s1 := w) rfl ?_
        refine UP.jv rfl (by decide) ?_
        rw [ed y hy]
        refine UP.stp 3 (i1 := 55) (L1 := [some (.ref 0), some (.int c), some (.int mi), some (.int wh), some (.long (Int64.ofNat (x / 2))), u5, some (.long (Int64.ofNat (y / 2))), u7, some (.int (Int32.ofNat i + 1))]) (st1 := []) (s1 := w) rfl ?_
        rw [ofn_s]
        exact ih (i + 1) (x / 2) (y / 2) w u5 u7 (by omega) (by omega) (by omega) hk hw
      · rw [if_neg r]
        have e : x % 2 = 1 := by omega
        rw [e]
        refine UP.ifT rfl rfl ?_
        exact fin i x y w u5 u7 hk hw
theorem chL {s : SG} {N C : Nat} (hN : N ≤ 8) (eN : s 2 3 = Int32.ofNat N) (hC : C ≤ 16) (mi wh : Int32) : ∀ (n m : Nat) (w : SG) (u5 u7 u8 : Option Value), m + n = 2 ^ N → KF w → Ag DG s w → UP m_X6_chance 18 [some (.ref 0), some (.int (Int32.ofNat C)), some (.int mi), some (.int wh), some (.long (Int64.ofNat (smN (gN s N C mi) m))), u5, some (.int (Int32.ofNat m)), u7, u8] [] w (CPl s (anC wh (hv 32 (smN (gN s N C mi) (2 ^ N)) (2 ^ (4 * N))))) := by
  have hM := p256 hN
  have gb := gN_b s hN hC mi
  have sb : ∀ k, k ≤ 256 → smN (gN s N C mi) k < 4611686018427387904 := fun k hk => by
    have := smN_b gb k
    have : k * 4294967296 ≤ 256 * 4294967296 := Nat.mul_le_mul_right _ hk
    omega
  intro n
  induction n with
  | zero =>
    intro m w u5 u7 u8 hm hk hw
    have e : m = 2 ^ N := by omega
    subst e
    refine UP.stp 6 (i1 := 24) (L1 := [some (.ref 0), some (.int (Int32.ofNat C)), some (.int mi), some (.int wh), some (.long (Int64.ofNat (smN (gN s N C mi) (2 ^ N)))), u5, some (.int (Int32.ofNat (2 ^ N))), u7, u8]) (st1 := [.int (1 <<< (w 2 3 &&& 31)), .int (Int32.ofNat (2 ^ N))]) (s1 := w) rfl ?_
    rw [n23 eN hw, (pw2 N (by omega)).1]
    refine UP.icT rfl geT' ?_
    refine UP.stp 10 (i1 := 55) (L1 := [some (.ref 0), some (.int (Int32.ofNat C)), some (.int mi), some (.int wh), some (.long (Int64.ofNat (smN (gN s N C mi) (2 ^ N)))), u5, some (.long (1 <<< ((4 * w 2 3).toInt64 &&& 63))), u7, some (.int (Int32.ofNat 0))]) (st1 := []) (s1 := w) rfl ?_
    rw [n23 eN hw, (pw2 N (by omega)).2]
    have p := p32 hN
    exact hvC _ mi wh 32 0 _ _ w _ _ rfl (sb _ hM) (by omega) hk hw
  | succ n ih =>
    intro m w u5 u7 u8 hm hk hw
    refine UP.stp 6 (i1 := 24) (L1 := [some (.ref 0), some (.int (Int32.ofNat C)), some (.int mi), some (.int wh), some (.long (Int64.ofNat (smN (gN s N C mi) m))), u5, some (.int (Int32.ofNat m)), u7, u8]) (st1 := [.int (1 <<< (w 2 3 &&& 31)), .int (Int32.ofNat m)]) (s1 := w) rfl ?_
    rw [n23 eN hw, (pw2 N (by omega)).1]
    refine UP.icF rfl (geF' (by omega) (by omega)) ?_
    refine UP.stp 3 (i1 := 28) (L1 := [some (.ref 0), some (.int (Int32.ofNat C)), some (.int mi), some (.int wh), some (.long (Int64.ofNat (smN (gN s N C mi) m))), u5, some (.int (Int32.ofNat m)), u7, u8]) (st1 := [.int (Int32.ofNat C), .int (Int32.ofNat m), .ref 0]) (s1 := w) rfl ?_
    refine UP.cJ (M1 := m_X6_weightOf) (as := [.ref 0, .int (Int32.ofNat m), .int (Int32.ofNat C)]) (rest := []) (T := F_weightOf w (Int32.ofNat m) (Int32.ofNat C)) rfl rfl (ux_weightOf w (Int32.ofNat m) (Int32.ofNat C)) ?_
    rw [woC hN (n23 eN hw) hC]
    have wb := wN_b hC (bitB (Int32.ofNat m)) N
    have p := p16 hN
    have eg : gN s N C mi m = if wN N C (bitB (Int32.ofNat m)) = 0 then 0 else (bif agB s mi (Int32.ofNat m) then wN N C (bitB (Int32.ofNat m)) else 0) := rfl
    have es := smN_s (gN s N C mi) m
    rw [eg] at es
    generalize wN N C (bitB (Int32.ofNat m)) = x at *
    refine UP.stp 4 (i1 := 33) (L1 := [some (.ref 0), some (.int (Int32.ofNat C)), some (.int mi), some (.int wh), some (.long (Int64.ofNat (smN (gN s N C mi) m))), u5, some (.int (Int32.ofNat m)), some (.long (Int64.ofNat x)), u8]) (st1 := [.int (lg_cmp (Int64.ofNat x) 0)]) (s1 := w) rfl ?_
    have step : ∀ (y : Nat) (w2 : SG) (v7 v8 : Option Value), smN (gN s N C mi) (m + 1) = y → KF w2 → Ag DG s w2 → UP m_X6_chance 43 [some (.ref 0), some (.int (Int32.ofNat C)), some (.int mi), some (.int wh), some (.long (Int64.ofNat y)), u5, some (.int (Int32.ofNat m)), v7, v8] [] w2 (CPl s (anC wh (hv 32 (smN (gN s N C mi) (2 ^ N)) (2 ^ (4 * N))))) := by
      intro y w2 v7 v8 hy k2 a2
      refine UP.stp 2 (i1 := 18) (L1 := [some (.ref 0), some (.int (Int32.ofNat C)), some (.int mi), some (.int wh), some (.long (Int64.ofNat y)), u5, some (.int (Int32.ofNat m + 1)), v7, v8]) (st1 := []) (s1 := w2) rfl ?_
      rw [ofn_s, ← hy]
      exact ih (m + 1) w2 _ _ _ (by omega) k2 a2
    by_cases q : x = 0
    · refine UP.ifT rfl (by rw [leW (by omega), decide_eq_true q]) ?_
      rw [if_pos q, Nat.add_zero] at es
      exact step _ w _ _ es hk hw
    · refine UP.ifF rfl (by rw [leW (by omega), decide_eq_false q]) ?_
      rw [if_neg q] at es
      refine UP.stp 3 (i1 := 37) (L1 := [some (.ref 0), some (.int (Int32.ofNat C)), some (.int mi), some (.int wh), some (.long (Int64.ofNat (smN (gN s N C mi) m))), u5, some (.int (Int32.ofNat m)), some (.long (Int64.ofNat x)), u8]) (st1 := [.int (Int32.ofNat m), .int mi, .ref 0]) (s1 := w) rfl ?_
      refine UP.cB (M1 := m_X6_isAgroundBy) (as := [.ref 0, .int mi, .int (Int32.ofNat m)]) (rest := []) (T := F_isAgroundBy w mi (Int32.ofNat m)) rfl rfl (ux_isAgroundBy w mi (Int32.ofNat m)) (fun z e => ?_)
      have hb : bl (Int32.ofNat m) 256 = true := bl_iff.mpr (by
        rw [ofn_int (by omega)]
        have e256 : (256 : Int32).toInt = 256 := by decide
        omega)
      obtain ⟨z1, z2, z3⟩ := iabN hk hw (mi := mi) hb e
      cases r : agB s mi (Int32.ofNat m) with
      | false =>
        rw [r, lF] at z3
        rw [r, kF, Nat.add_zero] at es
        refine UP.ifT rfl z3 ?_
        exact step _ z.2 _ _ es z1 z2
      | true =>
        rw [r, lT] at z3
        rw [r, kT] at es
        refine UP.ifF rfl z3 ?_
        refine UP.stp 4 (i1 := 43) (L1 := [some (.ref 0), some (.int (Int32.ofNat C)), some (.int mi), some (.int wh), some (.long (Int64.ofNat (smN (gN s N C mi) m) + Int64.ofNat x)), u5, some (.int (Int32.ofNat m)), some (.long (Int64.ofNat x)), u8]) (st1 := []) (s1 := z.2) rfl ?_
        rw [← Int64.ofNat_add]
        exact step _ z.2 _ _ es z1 z2
def okC (c mi wh : Int32) : Bool := bif bl c 17 then (bif bl mi 24 then bl wh 2 else false) else false
def chA (s : SG) (N : Nat) (c mi wh : Int32) : Int64 := bif okC c mi wh then anC wh (hv 32 (smN (gN s N c.toNatClampNeg mi) (2 ^ N)) (2 ^ (4 * N))) else -9223372036854775806
theorem ux_chanceC {s : SG} {N : Nat} (h : KF s) (hN : N ≤ 8) (eN : s 2 3 = Int32.ofNat N) (c mi wh : Int32) : UP m_X6_chance 0 (m_ent 9 [.ref 0, .int c, .int mi, .int wh]) [] s (CPl s (chA s N c mi wh)) := by
  have bad : UP m_X6_chance 12 [some (.ref 0), some (.int c), some (.int mi), some (.int wh), none, none, none, none, none] [] s (CPl s (-9223372036854775806)) := by
    refine UP.stp 1 (i1 := 13) (L1 := [some (.ref 0), some (.int c), some (.int mi), some (.int wh), none, none, none, none, none]) (st1 := [.long (-9223372036854775806)]) (s1 := s) rfl ?_
    exact UP.ret (r := some (.long (-9223372036854775806))) rfl ⟨rfl, h, Ag.rf _ _⟩
  unfold chA okC
  refine UP.stp 2 (i1 := 2) (L1 := [some (.ref 0), some (.int c), some (.int mi), some (.int wh), none, none, none, none, none]) (st1 := [.int 17, .int c]) (s1 := s) rfl ?_
  refine UP.cI (M1 := m_X6_isBelow) (as := [.int c, .int 17]) (rest := []) (T := F_isBelow s c 17) rfl rfl (ux_isBelow s c 17) ?_
  cases q1 : bl c 17 with
  | false =>
    refine UP.ifT rfl (by rw [bl_e, q1]; rfl) ?_
    exact bad
  | true =>
    refine UP.ifF rfl (by rw [bl_e, q1]; rfl) ?_
    refine UP.stp 2 (i1 := 6) (L1 := [some (.ref 0), some (.int c), some (.int mi), some (.int wh), none, none, none, none, none]) (st1 := [.int 24, .int mi]) (s1 := s) rfl ?_
    refine UP.cI (M1 := m_X6_isBelow) (as := [.int mi, .int 24]) (rest := []) (T := F_isBelow s mi 24) rfl rfl (ux_isBelow s mi 24) ?_
    cases q2 : bl mi 24 with
    | false =>
      refine UP.ifT rfl (by rw [bl_e, q2]; rfl) ?_
      exact bad
    | true =>
      refine UP.ifF rfl (by rw [bl_e, q2]; rfl) ?_
      refine UP.stp 2 (i1 := 10) (L1 := [some (.ref 0), some (.int c), some (.int mi), some (.int wh), none, none, none, none, none]) (st1 := [.int 2, .int wh]) (s1 := s) rfl ?_
      refine UP.cI (M1 := m_X6_isBelow) (as := [.int wh, .int 2]) (rest := []) (T := F_isBelow s wh 2) rfl rfl (ux_isBelow s wh 2) ?_
      cases q3 : bl wh 2 with
      | false =>
        refine UP.ifF rfl (by rw [bl_n, q3]) ?_
        exact bad
      | true =>
        refine UP.ifT rfl (by rw [bl_n, q3]) ?_
        obtain ⟨ec, lc⟩ := bl_ofn q1
        have lc : c.toNatClampNeg < 17 := lc
        rw [kT, kT, kT]
        generalize c.toNatClampNeg = C at *
        rw [ec]
        refine UP.stp 4 (i1 := 18) (L1 := [some (.ref 0), some (.int (Int32.ofNat C)), some (.int mi), some (.int wh), some (.long (Int64.ofNat 0)), none, some (.int (Int32.ofNat 0)), none, none]) (st1 := []) (s1 := s) rfl ?_
        exact chL hN eN (by omega) mi wh (2 ^ N) 0 s _ _ _ (by omega) h (Ag.rf _ _)
end
section
/-! chance: the model's side; both answers -/
theorem cmpB : ∀ N, N < 9 → ∀ m, m < 2 ^ N → ∀ e, e < N → bitB (Int32.ofNat m) e = !(bitB (Int32.ofNat (2 ^ N - 1 - m)) e) := by decide +kernel
theorem smN_c {g d : Nat → Nat} (k : Nat) (h : ∀ m, m < k → g m = d m) : smN g k = smN d k := by
  induction k with
  | zero => unfold smN; rw [itr_z, itr_z]
  | succ k ih => rw [smN_s, smN_s, ih (fun m hm => h m (by omega)), h k (by omega)]
theorem smN_r (g : Nat → Nat) (M : Nat) : ∀ k, k ≤ M → smN (fun m => g (M - 1 - m)) k + smN g (M - k) = smN g M := by
  intro k
  induction k with
  | zero =>
    intro _
    have e : smN (fun m => g (M - 1 - m)) 0 = 0 := by unfold smN; rw [itr_z]
    rw [e, Nat.zero_add, Nat.sub_zero]
  | succ k ih =>
    intro hk
    have h := ih (by omega)
    rw [show M - k = (M - (k + 1)) + 1 by omega, smN_s] at h
    rw [smN_s]
    (try dsimp only)
    rw [show M - 1 - k = M - (k + 1) by omega]
    omega
theorem smN_rev (g : Nat → Nat) (M : Nat) : smN (fun m => g (M - 1 - m)) M = smN g M := by
  have h := smN_r g M M (Nat.le_refl _)
  have e : smN g (M - M) = 0 := by rw [Nat.sub_self]; unfold smN; rw [itr_z]
  omega
theorem gfi_t (J : TI) (i : Nat) : i ≤ 24 → gfi J i = -1 ∨ ∃ t, t < i ∧ gfi J i = Int32.ofNat t := by
  induction i with
  | zero => exact fun _ => Or.inl (gfi_0 J)
  | succ i ih =>
    intro hi
    rw [gfi_s]
    have h := ih (by omega)
    cases m_cmp .eq (gr' J i (trip J i)) 0 with
    | true =>
      rw [kT]
      rcases h with h | ⟨t, t1, t2⟩
      · exact Or.inl h
      · exact Or.inr ⟨t, by omega, t2⟩
    | false =>
      rw [kF]
      cases m_cmp .ne (gfi J i) (-1) with
      | true =>
        rw [kT]
        rcases h with h | ⟨t, t1, t2⟩
        · exact Or.inl h
        · exact Or.inr ⟨t, by omega, t2⟩
      | false =>
        rw [kF]
        exact Or.inr ⟨i, by omega, rfl⟩
theorem in_ag (y s : SG) (mi mask : Int32) : m_cmp .eq (F_in y (gfi (inC_a s mask) 24) 0 mi) 0 = !(agB s mi mask) := by
  have eF : F_in y (gfi (inC_a s mask) 24) 0 mi = bif m_cmp .lt (gfi (inC_a s mask) 24) 0 then (0 : Int32) else (bif m_cmp .gt (gfi (inC_a s mask) 24) mi then (0 : Int32) else (1 : Int32)) := rfl
  rw [eF]
  unfold agB
  have e : m_cmp .lt (gfi (inC_a s mask) 24) 0 = m_cmp .eq (gfi (inC_a s mask) 24) (-1) := by
    rcases gfi_t (inC_a s mask) 24 (Nat.le_refl _) with h | ⟨t, t1, t2⟩
    · rw [h]; rfl
    · rw [t2]
      have e0 : (0 : Int32).toInt = 0 := by decide
      have a : m_cmp .lt (Int32.ofNat t) 0 = false := by
        cases q : m_cmp .lt (Int32.ofNat t) 0 with
        | false => rfl
        | true =>
          have q := m_lt_iff.mp q
          rw [ofn_int (by omega)] at q
          omega
      have b : m_cmp .eq (Int32.ofNat t) (-1) = false := by
        cases q : m_cmp .eq (Int32.ofNat t) (-1) with
        | false => rfl
        | true => exact absurd (m_eq_iff.mp q) (ofn_ne (by omega))
      rw [a, b]
  rw [e]
  generalize gfi (inC_a s mask) 24 = g
  cases m_cmp .eq g (-1) with
  | true => rfl
  | false =>
    cases m_cmp .gt g mi <;> rfl
/-! Euclid -/
theorem lgN {y : Nat} (h : y < 4611686018427387904) (h0 : 0 < y) : m_cmp .eq (lg_cmp (Int64.ofNat y) 0) 0 = false := by
  cases q : m_cmp .eq (lg_cmp (Int64.ofNat y) 0) 0 with
  | false => rfl
  | true => exact absurd ((lg_cmp_0 _).mp (m_eq_iff.mp q)) (l_ne0 h h0)
theorem eucL (s : SG) {t b g : Nat} (ht : t < 4611686018427387904) (hb : b < 4611686018427387904) (hg : 0 < g) (hg2 : g < 4611686018427387904) (wh : Int32) : ∀ (k y x : Nat) (u6 u8 u9 u10 : Option Value), y ≤ k → x < 4611686018427387904 → y < 4611686018427387904 → Nat.gcd x y = g → UP m_X7_lowest 4 [some (.long (Int64.ofNat t)), none, some (.long (Int64.ofNat b)), none, some (.int wh), some (.long (Int64.ofNat x)), u6, some (.long (Int64.ofNat y)), u8, u9, u10] [] s (Qj s (anC wh (t / g, b / g))) := by
  intro k
  induction k with
  | zero =>
    intro y x u6 u8 u9 u10 hk hx hy he
    have e : y = 0 := by omega
    subst e
    rw [Nat.gcd_zero_right] at he
    subst he
    refine UP.stp 3 (i1 := 7) (L1 := [some (.long (Int64.ofNat t)), none, some (.long (Int64.ofNat b)), none, some (.int wh), some (.long (Int64.ofNat x)), u6, some (.long (Int64.ofNat 0)), u8, u9, u10]) (st1 := [.int (lg_cmp (Int64.ofNat 0) 0)]) (s1 := s) rfl ?_
    refine UP.ifT rfl rfl ?_
    refine UP.stp 1 (i1 := 18) (L1 := [some (.long (Int64.ofNat t)), none, some (.long (Int64.ofNat b)), none, some (.int wh), some (.long (Int64.ofNat x)), u6, some (.long (Int64.ofNat 0)), u8, u9, u10]) (st1 := [.int wh]) (s1 := s) rfl ?_
    unfold anC
    cases q : m_cmp .ne wh 0 with
    | true =>
      refine UP.ifT rfl q ?_
      refine UP.stp 2 (i1 := 25) (L1 := [some (.long (Int64.ofNat t)), none, some (.long (Int64.ofNat b)), none, some (.int wh), some (.long (Int64.ofNat x)), u6, some (.long (Int64.ofNat 0)), u8, u9, u10]) (st1 := [.long (Int64.ofNat x), .long (Int64.ofNat b)]) (s1 := s) rfl ?_
      refine UP.jv rfl (l_ne0 hx hg) ?_
      rw [l_div hb hx]
      exact UP.ret (r := some (.long (Int64.ofNat (b / x)))) rfl ⟨rfl, rfl⟩
    | false =>
      refine UP.ifF rfl q ?_
      refine UP.stp 2 (i1 := 21) (L1 := [some (.long (Int64.ofNat t)), none, some (.long (Int64.ofNat b)), none, some (.int wh), some (.long (Int64.ofNat x)), u6, some (.long (Int64.ofNat 0)), u8, u9, u10]) (st1 := [.long (Int64.ofNat x), .long (Int64.ofNat t)]) (s1 := s) rfl ?_
      refine UP.jv rfl (l_ne0 hx hg) ?_
      rw [l_div ht hx]
      refine UP.stp 1 (i1 := 26) (L1 := [some (.long (Int64.ofNat t)), none, some (.long (Int64.ofNat b)), none, some (.int wh), some (.long (Int64.ofNat x)), u6, some (.long (Int64.ofNat 0)), u8, u9, u10]) (st1 := [.long (Int64.ofNat (t / x))]) (s1 := s) rfl ?_
      exact UP.ret (r := some (.long (Int64.ofNat (t / x)))) rfl ⟨rfl, rfl⟩
  | succ k ih =>
    intro y x u6 u8 u9 u10 hk hx hy he
    by_cases w : y = 0
    · exact ih y x u6 u8 u9 u10 (by omega) hx hy he
    · refine UP.stp 3 (i1 := 7) (L1 := [some (.long (Int64.ofNat t)), none, some (.long (Int64.ofNat b)), none, some (.int wh), some (.long (Int64.ofNat x)), u6, some (.long (Int64.ofNat y)), u8, u9, u10]) (st1 := [.int (lg_cmp (Int64.ofNat y) 0)]) (s1 := s) rfl ?_
      refine UP.ifF rfl (lgN hy (by omega)) ?_
      refine UP.stp 2 (i1 := 10) (L1 := [some (.long (Int64.ofNat t)), none, some (.long (Int64.ofNat b)), none, some (.int wh), some (.long (Int64.ofNat x)), u6, some (.long (Int64.ofNat y)), u8, u9, u10]) (st1 := [.long (Int64.ofNat y), .long (Int64.ofNat x)]) (s1 := s) rfl ?_
      refine UP.jd rfl (l_ne0 hy (by omega)) ?_
      rw [l_rem hx hy]
      refine UP.stp 6 (i1 := 4) (L1 := [some (.long (Int64.ofNat t)), none, some (.long (Int64.ofNat b)), none, some (.int wh), some (.long (Int64.ofNat y)), u6, some (.long (Int64.ofNat (x % y))), u8, some (.long (Int64.ofNat (x % y))), u10]) (st1 := []) (s1 := s) rfl ?_
      have l : x % y < y := Nat.mod_lt x (by omega)
      refine ih (x % y) y u6 u8 _ u10 (by omega) hy (by omega) ?_
      rw [← he, Nat.gcd_comm x y, Nat.gcd_rec y x, Nat.gcd_comm]
theorem ux_low (s : SG) {t m : Nat} (ht : t < 4611686018427387904) (hm : m ≤ 32) (wh : Int32) : UP m_X7_lowest 0 (m_ent 11 [.long (Int64.ofNat t), .long (Int64.ofNat (2 ^ m)), .int wh]) [] s (Qj s (anC wh (hv 32 t (2 ^ m)))) := by
  have p : 2 ^ m ≤ 4294967296 := Nat.le_trans (Nat.pow_le_pow_right (by decide) hm) (by decide)
  have p1 : 1 ≤ 2 ^ m := Nat.one_le_two_pow
  have g0 : 0 < Nat.gcd t (2 ^ m) := Nat.gcd_pos_of_pos_right t (by omega)
  have g1 : Nat.gcd t (2 ^ m) ≤ 2 ^ m := Nat.gcd_le_right t (by omega)
  refine UP.stp 4 (i1 := 4) (L1 := [some (.long (Int64.ofNat t)), none, some (.long (Int64.ofNat (2 ^ m))), none, some (.int wh), some (.long (Int64.ofNat t)), none, some (.long (Int64.ofNat (2 ^ m))), none, none, none]) (st1 := []) (s1 := s) rfl ?_
  rw [hv_g 32 m t hm]
  exact eucL s ht (by omega) g0 (by omega) wh _ _ _ _ _ _ _ (Nat.le_refl _) ht (by omega) rfl
/-! the model's sum -/
def MPl (c : SG) (T : Int64) (v : Option Value) (s1 : SG) : Prop := v = some (.long T) ∧ MtE c s1
theorem inL {c : SG} {N C : Nat} (g : KG c) (hN : N ≤ 8) (eN : c 2 3 = Int32.ofNat N) (hC : C ≤ 16) (mi wh : Int32) (m : Nat) (S : Int64) (T : Int64) (w : SG) (hm : MtE c w) (u5 u8 : Option Value) (hout : ∀ (v8 v9 : Option Value), UP m_X7_chanceOf 36 [some (.ref 123), some (.int (Int32.ofNat C)), some (.int mi), some (.int wh), some (.long S), u5, some (.int (Int32.ofNat m)), some (.long (Int64.ofNat (wN N C (fun e => !(bitB (Int32.ofNat m) e))))), v8, v9] [] w (MPl c T)) : ∀ (n e : Nat), e + n = N → UP m_X7_chanceOf 16 [some (.ref 123), some (.int (Int32.ofNat C)), some (.int mi), some (.int wh), some (.long S), u5, some (.int (Int32.ofNat m)), some (.long (Int64.ofNat (wN e C (fun e => !(bitB (Int32.ofNat m) e))))), u8, some (.int (Int32.ofNat e))] [] w (MPl c T) := by
  intro n
  induction n with
  | zero =>
    intro e he
    have ee : e = N := by omega
    subst ee
    refine UP.stp 3 (i1 := 19) (L1 := [some (.ref 123), some (.int (Int32.ofNat C)), some (.int mi), some (.int wh), some (.long S), u5, some (.int (Int32.ofNat m)), some (.long (Int64.ofNat (wN e C (fun e => !(bitB (Int32.ofNat m) e))))), u8, some (.int (Int32.ofNat e))]) (st1 := [.int (w 123 11), .int (Int32.ofNat e)]) (s1 := w) rfl ?_
    rw [n11 g.2.2.1 eN hm]
    refine UP.icT rfl geT' ?_
    exact hout _ _
  | succ n ih =>
    intro e he
    refine UP.stp 3 (i1 := 19) (L1 := [some (.ref 123), some (.int (Int32.ofNat C)), some (.int mi), some (.int wh), some (.long S), u5, some (.int (Int32.ofNat m)), some (.long (Int64.ofNat (wN e C (fun e => !(bitB (Int32.ofNat m) e))))), u8, some (.int (Int32.ofNat e))]) (st1 := [.int (w 123 11), .int (Int32.ofNat e)]) (s1 := w) rfl ?_
    rw [n11 g.2.2.1 eN hm]
    refine UP.icF rfl (geF' (by omega) (by omega)) ?_
    have nx := ih (e + 1) (by omega)
    rw [wN_s, Int64.ofNat_mul] at nx
    generalize wN e C (fun e => !(bitB (Int32.ofNat m) e)) = x at *
    refine UP.stp 3 (i1 := 23) (L1 := [some (.ref 123), some (.int (Int32.ofNat C)), some (.int mi), some (.int wh), some (.long S), u5, some (.int (Int32.ofNat m)), some (.long (Int64.ofNat x)), u8, some (.int (Int32.ofNat e))]) (st1 := [.int (Int32.ofNat e), .int (Int32.ofNat m), .long (Int64.ofNat x)]) (s1 := w) rfl ?_
    refine UP.cI (M1 := m_X7_isIn) (as := [.int (Int32.ofNat m), .int (Int32.ofNat e)]) (rest := [.long (Int64.ofNat x)]) (T := F_isIn w (Int32.ofNat m) (Int32.ofNat e)) rfl rfl (ux_isIn w (Int32.ofNat m) (Int32.ofNat e)) ?_
    have eI : m_cmp .eq (F_isIn w (Int32.ofNat m) (Int32.ofNat e)) 0 = !(bitB (Int32.ofNat m) e) := by
      rw [eq_ne, isIn_bit]
      rfl
    cases q : bitB (Int32.ofNat m) e with
    | true =>
      rw [q, lT] at eI
      rw [q, lT, kF] at nx
      refine UP.ifF rfl eI ?_
      refine UP.stp 5 (i1 := 32) (L1 := [some (.ref 123), some (.int (Int32.ofNat C)), some (.int mi), some (.int wh), some (.long S), u5, some (.int (Int32.ofNat m)), some (.long (Int64.ofNat x)), u8, some (.int (Int32.ofNat e))]) (st1 := [.long (16 - Int32.ofNat C).toInt64, .long (Int64.ofNat x)]) (s1 := w) rfl ?_
      rw [(c64 hC).2]
      refine UP.stp 4 (i1 := 16) (L1 := [some (.ref 123), some (.int (Int32.ofNat C)), some (.int mi), some (.int wh), some (.long S), u5, some (.int (Int32.ofNat m)), some (.long (Int64.ofNat x * Int64.ofNat (16 - C))), u8, some (.int (Int32.ofNat e + 1))]) (st1 := []) (s1 := w) rfl ?_
      rw [ofn_s]
      exact nx
    | false =>
      rw [q, lF] at eI
      rw [q, lF, kT] at nx
      refine UP.ifT rfl eI ?_
      refine UP.stp 2 (i1 := 32) (L1 := [some (.ref 123), some (.int (Int32.ofNat C)), some (.int mi), some (.int wh), some (.long S), u5, some (.int (Int32.ofNat m)), some (.long (Int64.ofNat x)), u8, some (.int (Int32.ofNat e))]) (st1 := [.long (Int32.ofNat C).toInt64, .long (Int64.ofNat x)]) (s1 := w) rfl ?_
      rw [(c64 hC).1]
      refine UP.stp 4 (i1 := 16) (L1 := [some (.ref 123), some (.int (Int32.ofNat C)), some (.int mi), some (.int wh), some (.long S), u5, some (.int (Int32.ofNat m)), some (.long (Int64.ofNat x * Int64.ofNat C)), u8, some (.int (Int32.ofNat e + 1))]) (st1 := []) (s1 := w) rfl ?_
      rw [ofn_s]
      exact nx
theorem chM {c : SG} {N C : Nat} (g : KG c) (hN : N ≤ 8) (eN : c 2 3 = Int32.ofNat N) (hC : C ≤ 16) (mi wh : Int32) : ∀ (n m : Nat) (w : SG) (u5 u7 u8 u9 : Option Value), m + n = 2 ^ N → MtE c w → UP m_X7_chanceOf 6 [some (.ref 123), some (.int (Int32.ofNat C)), some (.int mi), some (.int wh), some (.long (Int64.ofNat (smN (fun m => gN c N C mi (2 ^ N - 1 - m)) m))), u5, some (.int (Int32.ofNat m)), u7, u8, u9] [] w (MPl c (anC wh (hv 32 (smN (gN c N C mi) (2 ^ N)) (2 ^ (4 * N))))) := by
  have hM := p256 hN
  have h8 := row8 g.1.1 g.2.1.1
  have cN : (c 2 3).toNatClampNeg = N := by rw [eN]; exact ofn_c (by omega)
  have sb : smN (gN c N C mi) (2 ^ N) < 4611686018427387904 := by
    have := smN_b (gN_b c hN hC mi) (2 ^ N)
    have : 2 ^ N * 4294967296 ≤ 256 * 4294967296 := Nat.mul_le_mul_right _ hM
    omega
  intro n
  induction n with
  | zero =>
    intro m w u5 u7 u8 u9 hm ht
    have e : m = 2 ^ N := by omega
    subst e
    rw [smN_rev]
    refine UP.stp 5 (i1 := 11) (L1 := [some (.ref 123), some (.int (Int32.ofNat C)), some (.int mi), some (.int wh), some (.long (Int64.ofNat (smN (gN c N C mi) (2 ^ N)))), u5, some (.int (Int32.ofNat (2 ^ N))), u7, u8, u9]) (st1 := [.int (1 <<< (w 123 11 &&& 31)), .int (Int32.ofNat (2 ^ N))]) (s1 := w) rfl ?_
    rw [n11 g.2.2.1 eN ht, (pw2 N (by omega)).1]
    refine UP.icT rfl geT' ?_
    refine UP.stp 8 (i1 := 67) (L1 := [some (.ref 123), some (.int (Int32.ofNat C)), some (.int mi), some (.int wh), some (.long (Int64.ofNat (smN (gN c N C mi) (2 ^ N)))), u5, some (.int (Int32.ofNat (2 ^ N))), u7, u8, u9]) (st1 := [.int wh, .long (1 <<< ((4 * w 123 11).toInt64 &&& 63)), .long (Int64.ofNat (smN (gN c N C mi) (2 ^ N)))]) (s1 := w) rfl ?_
    rw [n11 g.2.2.1 eN ht, (pw2 N (by omega)).2]
    refine UP.cJ (M1 := m_X7_lowest) (as := [.long (Int64.ofNat (smN (gN c N C mi) (2 ^ N))), .long (Int64.ofNat (2 ^ (4 * N))), .int wh]) (rest := []) (T := anC wh (hv 32 (smN (gN c N C mi) (2 ^ N)) (2 ^ (4 * N)))) rfl rfl (ux_low w sb (by omega) wh) ?_
    exact UP.ret (r := some (.long (anC wh (hv 32 (smN (gN c N C mi) (2 ^ N)) (2 ^ (4 * N)))))) rfl ⟨rfl, ht⟩
  | succ n ih =>
    intro m w u5 u7 u8 u9 hm ht
    have m2 : m < 2 ^ N := by omega
    refine UP.stp 5 (i1 := 11) (L1 := [some (.ref 123), some (.int (Int32.ofNat C)), some (.int mi), some (.int wh), some (.long (Int64.ofNat (smN (fun m => gN c N C mi (2 ^ N - 1 - m)) m))), u5, some (.int (Int32.ofNat m)), u7, u8, u9]) (st1 := [.int (1 <<< (w 123 11 &&& 31)), .int (Int32.ofNat m)]) (s1 := w) rfl ?_
    rw [n11 g.2.2.1 eN ht, (pw2 N (by omega)).1]
    refine UP.icF rfl (geF' (by omega) (by omega)) ?_
    refine UP.stp 4 (i1 := 16) (L1 := [some (.ref 123), some (.int (Int32.ofNat C)), some (.int mi), some (.int wh), some (.long (Int64.ofNat (smN (fun m => gN c N C mi (2 ^ N - 1 - m)) m))), u5, some (.int (Int32.ofNat m)), some (.long (Int64.ofNat 1)), u8, some (.int (Int32.ofNat 0))]) (st1 := []) (s1 := w) rfl ?_
    refine inL g hN eN hC mi wh m _ _ w ht u5 u8 (fun v8 v9 => ?_) N 0 (by omega)
    have cb : ∀ e, e < N → bitB (Int32.ofNat (2 ^ N - 1 - m)) e = !(bitB (Int32.ofNat m) e) := fun e he => by
      rw [cmpB N (by omega) m m2 e he, Bool.not_not]
    have ew : wN N C (fun e => !(bitB (Int32.ofNat m) e)) = wN N C (bitB (Int32.ofNat (2 ^ N - 1 - m))) := wN_c (fun e he => (cb e he).symm)
    rw [ew]
    have wb := wN_b hC (bitB (Int32.ofNat (2 ^ N - 1 - m))) N
    have p := p16 hN
    have es := smN_s (fun m => gN c N C mi (2 ^ N - 1 - m)) m
    (try dsimp only at es)
    have eg : gN c N C mi (2 ^ N - 1 - m) = if wN N C (bitB (Int32.ofNat (2 ^ N - 1 - m))) = 0 then 0 else (bif agB c mi (Int32.ofNat (2 ^ N - 1 - m)) then wN N C (bitB (Int32.ofNat (2 ^ N - 1 - m))) else 0) := rfl
    rw [eg] at es
    generalize wN N C (bitB (Int32.ofNat (2 ^ N - 1 - m))) = x at *
    refine UP.stp 3 (i1 := 39) (L1 := [some (.ref 123), some (.int (Int32.ofNat C)), some (.int mi), some (.int wh), some (.long (Int64.ofNat (smN (fun m => gN c N C mi (2 ^ N - 1 - m)) m))), u5, some (.int (Int32.ofNat m)), some (.long (Int64.ofNat x)), v8, v9]) (st1 := [.int (lg_cmp (Int64.ofNat x) 0)]) (s1 := w) rfl ?_
    have step : ∀ (y : Nat) (w2 : SG) (x7 x8 x9 : Option Value), smN (fun m => gN c N C mi (2 ^ N - 1 - m)) (m + 1) = y → MtE c w2 → UP m_X7_chanceOf 57 [some (.ref 123), some (.int (Int32.ofNat C)), some (.int mi), some (.int wh), some (.long (Int64.ofNat y)), u5, some (.int (Int32.ofNat m)), x7, x8, x9] [] w2 (MPl c (anC wh (hv 32 (smN (gN c N C mi) (2 ^ N)) (2 ^ (4 * N))))) := by
      intro y w2 x7 x8 x9 hy a2
      refine UP.stp 2 (i1 := 6) (L1 := [some (.ref 123), some (.int (Int32.ofNat C)), some (.int mi), some (.int wh), some (.long (Int64.ofNat y)), u5, some (.int (Int32.ofNat m + 1)), x7, x8, x9]) (st1 := []) (s1 := w2) rfl ?_
      rw [ofn_s, ← hy]
      exact ih (m + 1) w2 _ _ _ _ (by omega) a2
    by_cases q : x = 0
    · refine UP.ifT rfl (by rw [leW (by omega), decide_eq_true q]) ?_
      rw [if_pos q, Nat.add_zero] at es
      exact step _ w _ _ _ es ht
    · refine UP.ifF rfl (by rw [leW (by omega), decide_eq_false q]) ?_
      rw [if_neg q] at es
      refine UP.stp 4 (i1 := 44) (L1 := [some (.ref 123), some (.int (Int32.ofNat C)), some (.int mi), some (.int wh), some (.long (Int64.ofNat (smN (fun m => gN c N C mi (2 ^ N - 1 - m)) m))), u5, some (.int (Int32.ofNat m)), some (.long (Int64.ofNat x)), v8, v9]) (st1 := [.ref 123]) (s1 := uset w 123 17 (Int32.ofNat m)) rfl ?_
      obtain ⟨y0, o⟩ := ht
      have bk : bitK (c 2 3).toNatClampNeg (Int32.ofNat m) (Int32.ofNat (2 ^ N - 1 - m)) := by
        rw [cN]
        exact fun e he => cmpB N (by omega) m m2 e he
      obtain ⟨r1, r2⟩ := runT2 (mask := Int32.ofNat (2 ^ N - 1 - m)) g.2.2.1 h8 (o.wset (Int32.ofNat m)) bk (ovC g.1.1 g.2.1 _)
      refine UP.cV (M1 := m_X7_runs) (as := [.ref 123]) (rest := []) (T := F_runs (uset w 123 17 (Int32.ofNat m))) rfl rfl (ux_runs (uset w 123 17 (Int32.ofNat m))) (fun z e => ?_)
      rw [e] at r1 r2
      have e23 : z 123 23 = gfi (inC_a c (Int32.ofNat (2 ^ N - 1 - m))) 24 := r1.2.2.2.2.1
      refine UP.stp 5 (i1 := 50) (L1 := [some (.ref 123), some (.int (Int32.ofNat C)), some (.int mi), some (.int wh), some (.long (Int64.ofNat (smN (fun m => gN c N C mi (2 ^ N - 1 - m)) m))), u5, some (.int (Int32.ofNat m)), some (.long (Int64.ofNat x)), v8, v9]) (st1 := [.int mi, .int 0, .int (z 123 23), .long (Int64.ofNat (smN (fun m => gN c N C mi (2 ^ N - 1 - m)) m))]) (s1 := z) rfl ?_
      rw [e23]
      refine UP.cI (M1 := m_X7_in) (as := [.int (gfi (inC_a c (Int32.ofNat (2 ^ N - 1 - m))) 24), .int 0, .int mi]) (rest := [.long (Int64.ofNat (smN (fun m => gN c N C mi (2 ^ N - 1 - m)) m))]) (T := F_in z (gfi (inC_a c (Int32.ofNat (2 ^ N - 1 - m))) 24) 0 mi) rfl rfl (ux_in z (gfi (inC_a c (Int32.ofNat (2 ^ N - 1 - m))) 24) 0 mi) ?_
      have ei := in_ag z c mi (Int32.ofNat (2 ^ N - 1 - m))
      cases r : agB c mi (Int32.ofNat (2 ^ N - 1 - m)) with
      | false =>
        rw [r, lF] at ei
        rw [r, kF, Nat.add_zero] at es
        refine UP.ifT rfl ei ?_
        refine UP.stp 3 (i1 := 57) (L1 := [some (.ref 123), some (.int (Int32.ofNat C)), some (.int mi), some (.int wh), some (.long (Int64.ofNat (smN (fun m => gN c N C mi (2 ^ N - 1 - m)) m) + 0)), u5, some (.int (Int32.ofNat m)), some (.long (Int64.ofNat x)), v8, v9]) (st1 := []) (s1 := z) rfl ?_
        rw [Int64.add_zero]
        exact step _ z _ _ _ es ⟨_, r2⟩
      | true =>
        rw [r, lT] at ei
        rw [r, kT] at es
        refine UP.ifF rfl ei ?_
        refine UP.stp 4 (i1 := 57) (L1 := [some (.ref 123), some (.int (Int32.ofNat C)), some (.int mi), some (.int wh), some (.long (Int64.ofNat (smN (fun m => gN c N C mi (2 ^ N - 1 - m)) m) + Int64.ofNat x)), u5, some (.int (Int32.ofNat m)), some (.long (Int64.ofNat x)), v8, v9]) (st1 := []) (s1 := z) rfl ?_
        rw [← Int64.ofNat_add]
        exact step _ z _ _ _ es ⟨_, r2⟩
theorem ux_chOf {c : SG} {N C : Nat} (g : KG c) (hN : N ≤ 8) (eN : c 2 3 = Int32.ofNat N) (hC : C ≤ 16) (mi wh : Int32) : UP m_X7_chanceOf 0 (m_ent 10 [.ref 123, .int (Int32.ofNat C), .int mi, .int wh]) [] c (MPl c (anC wh (hv 32 (smN (gN c N C mi) (2 ^ N)) (2 ^ (4 * N))))) := by
  refine UP.stp 1 (i1 := 1) (L1 := [some (.ref 123), some (.int (Int32.ofNat C)), some (.int mi), some (.int wh), none, none, none, none, none, none]) (st1 := [.ref 123]) (s1 := c) rfl ?_
  refine UP.cV (M1 := m_X7_asTold) (as := [.ref 123]) (rest := []) (T := F_asTold c) rfl rfl (ux_asTold c) (fun y e => ?_)
  have hm : MtE c y := ⟨0, by rw [← e]; exact mtTold g.1.1 g.2.1⟩
  refine UP.stp 4 (i1 := 6) (L1 := [some (.ref 123), some (.int (Int32.ofNat C)), some (.int mi), some (.int wh), some (.long (Int64.ofNat 0)), none, some (.int (Int32.ofNat 0)), none, none, none]) (st1 := []) (s1 := y) rfl ?_
  exact chM g hN eN hC mi wh (2 ^ N) 0 y _ _ _ _ (by omega) hm
theorem ux_no (s : SG) : UP m_X7_no 0 (m_ent 1 [.int (-2)]) [] s (Qj s (-9223372036854775806)) := by
  refine UP.stp 4 (i1 := 4) (L1 := [some (.int (-2))]) (st1 := [.long ((-9223372036854775808) - (-2 : Int32).toInt64)]) (s1 := s) rfl ?_
  have e : (-9223372036854775808 : Int64) - (-2 : Int32).toInt64 = -9223372036854775806 := by decide
  rw [e]
  exact UP.ret (r := some (.long (-9223372036854775806))) rfl ⟨rfl, rfl⟩
theorem ux_chanceM {c : SG} {N : Nat} (k : KF c) (hN : N ≤ 8) (eN : c 2 3 = Int32.ofNat N) (a mi wh : Int32) : UP m_X7_chance 0 (m_ent 4 [.ref 123, .int a, .int mi, .int wh]) [] c (fun v s2 => v = some (.long (chA c N a mi wh)) ∧ KF s2) := by
  have bad : UP m_X7_chance 17 [some (.ref 123), some (.int a), some (.int mi), some (.int wh)] [] c (fun v s2 => v = some (.long (-9223372036854775806)) ∧ KF s2) := by
    refine UP.stp 1 (i1 := 18) (L1 := [some (.ref 123), some (.int a), some (.int mi), some (.int wh)]) (st1 := [.int (-2)]) (s1 := c) rfl ?_
    refine UP.cJ (M1 := m_X7_no) (as := [.int (-2)]) (rest := []) (T := -9223372036854775806) rfl rfl (ux_no c) ?_
    exact UP.ret (r := some (.long (-9223372036854775806))) rfl ⟨rfl, k⟩
  unfold chA okC
  refine UP.stp 3 (i1 := 3) (L1 := [some (.ref 123), some (.int a), some (.int mi), some (.int wh)]) (st1 := [.int 16, .int 0, .int a]) (s1 := c) rfl ?_
  refine UP.cI (M1 := m_X7_in) (as := [.int a, .int 0, .int 16]) (rest := []) (T := F_in c a 0 16) rfl rfl (ux_in c a 0 16) ?_
  cases q1 : bl a 17 with
  | false =>
    refine UP.ifT rfl (by rw [in_e c a 16 17 rfl, q1]; rfl) ?_
    exact bad
  | true =>
    refine UP.ifF rfl (by rw [in_e c a 16 17 rfl, q1]; rfl) ?_
    refine UP.stp 1 (i1 := 6) (L1 := [some (.ref 123), some (.int a), some (.int mi), some (.int wh)]) (st1 := [.int mi]) (s1 := c) rfl ?_
    refine UP.cI (M1 := m_X7_isMinute) (as := [.int mi]) (rest := []) (T := F_isMinute c mi) rfl rfl (ux_isMinute c mi) ?_
    cases q2 : bl mi 24 with
    | false =>
      refine UP.ifT rfl (by rw [isM_e, q2]; rfl) ?_
      exact bad
    | true =>
      refine UP.ifF rfl (by rw [isM_e, q2]; rfl) ?_
      refine UP.stp 1 (i1 := 9) (L1 := [some (.ref 123), some (.int a), some (.int mi), some (.int wh)]) (st1 := [.int wh]) (s1 := c) rfl ?_
      refine UP.cI (M1 := m_X7_isTwo) (as := [.int wh]) (rest := []) (T := F_isTwo c wh) rfl rfl (ux_isTwo c wh) ?_
      cases q3 : bl wh 2 with
      | false =>
        refine UP.ifT rfl (by rw [is2_e, q3]; rfl) ?_
        exact bad
      | true =>
        refine UP.ifF rfl (by rw [is2_e, q3]; rfl) ?_
        obtain ⟨ec, lc⟩ := bl_ofn q1
        have lc : a.toNatClampNeg < 17 := lc
        rw [kT, kT, kT]
        generalize a.toNatClampNeg = C at *
        rw [ec]
        refine UP.stp 4 (i1 := 15) (L1 := [some (.ref 123), some (.int (Int32.ofNat C)), some (.int mi), some (.int wh)]) (st1 := [.int wh, .int mi, .int (Int32.ofNat C), .ref 123]) (s1 := c) rfl ?_
        refine UP.call (M1 := m_X7_chanceOf) (as := [.ref 123, .int (Int32.ofNat C), .int mi, .int wh]) (rest := []) rfl rfl (ux_chOf k.1 hN eN (by omega) mi wh) (fun r w p => ?_)
        obtain ⟨rfl, x, m⟩ := p
        generalize anC wh (hv 32 (smN (gN c N C mi) (2 ^ N)) (2 ^ (4 * N))) = T at *
        refine UP.stp 1 (i1 := 19) (L1 := [some (.ref 123), some (.int (Int32.ofNat C)), some (.int mi), some (.int wh)]) (st1 := [.long T]) (s1 := w) rfl ?_
        exact UP.ret (r := some (.long T)) rfl ⟨rfl, k.ag (m.2.2.2.2.2.ag DF rfl)⟩
def TEl (r r2 : Option Value) : Prop := ∃ v, r = some (.long v) ∧ r2 = some (.long v)
theorem pe_chance {h : MH} (hJ : JK h) (a b c : Int32) (p : PairOK J1 TL 66 167 [.int a, .int b, .int c] h) : PairOK JK TEl 66 167 [.int a, .int b, .int c] h := by
  have E := hJ.2.1.2.2.1
  obtain ⟨N, hN, eN⟩ := lenO E.2.1 E.2.2.1
  refine PairOK.up (K := KF) (T' := TEl) (M1 := m_X6_chance) (M2 := m_X7_chance) (QX := CPl (cI h) (chA (cI h) N a b c)) (QY := fun _ s1 v s2 => v = some (.long (chA s1 N a b c)) ∧ KF s2) p hJ.1 rfl rfl (by decide) (by decide) (ux_chanceC hJ.2 hN eN a b c) (fun r s1 q => ux_chanceM q.2.1 hN (n23 eN q.2.2) a b c) (fun r s1 r2 h2 q w _ _ => ?_)
  obtain ⟨q1, q2, q3⟩ := q
  obtain ⟨w1, w3⟩ := w
  have eR : chA s1 N a b c = chA (cI h) N a b c := by
    have e : gN s1 N a.toNatClampNeg b = gN (cI h) N a.toNatClampNeg b := by
      funext m
      unfold gN agB
      rw [inC_ag (q3.sub rfl)]
    unfold chA
    rw [e]
  rw [eR] at w1
  generalize chA (cI h) N a b c = T at *
  exact ⟨⟨T, q1, w1⟩, w3⟩
end
section
/-! the what-ifs: answers alike (printed by wip/u/mk_pe.py) -/
theorem pe_steer {h : MH} (hJ : JK h) (a : Int32) (b : Int32) (p : PairOK J1 TA 53 149 [.int a, .int b] h) : PairOK JK TE 53 149 [.int a, .int b] h := up_q (M1 := m_X6_steer) (M2 := m_X7_steer) (c := F_csteer (cI h) a b) (m := fun y => F_steer y a b) p hJ rfl rfl (by decide) (by decide) (ux_csteer _ a b) (ux_steer _ a b) (q_steer hJ.2 a b)
theorem pe_stroke {h : MH} (hJ : JK h) (a : Int32) (b : Int32) (p : PairOK J1 TA 54 151 [.int a, .int b] h) : PairOK JK TE 54 151 [.int a, .int b] h := up_q (M1 := m_X6_stroke) (M2 := m_X7_stroke) (c := F_cstroke (cI h) a b) (m := fun y => F_stroke y a b) p hJ rfl rfl (by decide) (by decide) (ux_cstroke _ a b) (ux_stroke _ a b) (q_stroke hJ.2 a b)
theorem pe_years {h : MH} (hJ : JK h) (a : Int32) (b : Int32) (c : Int32) (p : PairOK J1 TA 69 169 [.int a, .int b, .int c] h) : PairOK JK TE 69 169 [.int a, .int b, .int c] h := up_q (M1 := m_X6_years) (M2 := m_X7_years) (c := F_cyears (cI h) a b c) (m := fun y => F_years y a b c) p hJ rfl rfl (by decide) (by decide) (ux_cyears _ a b c) (ux_years _ a b c) (q_years hJ.2 a b c)
theorem pe_never {h : MH} (hJ : JK h) (p : PairOK J1 TA 60 160 [] h) : PairOK JK TE 60 160 [] h := up_q (M1 := m_X6_never) (M2 := m_X7_never) (c := F_cnever (cI h)) (m := fun y => F_never y) p hJ rfl rfl (by decide) (by decide) (ux_cnever _) (ux_never _) (q_never hJ.2)
theorem pe_was {h : MH} (hJ : JK h) (a : Int32) (b : Int32) (p : PairOK J1 TA 61 163 [.int a, .int b] h) : PairOK JK TE 61 163 [.int a, .int b] h := up_q (M1 := m_X6_was) (M2 := m_X7_was) (c := F_cwas (cI h) a b) (m := fun y => F_was y a b) p hJ rfl rfl (by decide) (by decide) (ux_cwas _ a b) (ux_was _ a b) (q_was hJ.2 a b)
theorem pe_ask {h : MH} (hJ : JK h) (a : Int32) (p : PairOK J1 TA 64 165 [.int a] h) : PairOK JK TE 64 165 [.int a] h := up_q (M1 := m_X6_ask) (M2 := m_X7_ask) (c := F_cask (cI h) a) (m := fun y => F_ask y a) p hJ rfl rfl (by decide) (by decide) (ux_cask _ a) (ux_ask _ a) (q_ask hJ.2 a)
theorem pe_swap {h : MH} (hJ : JK h) (a : Int32) (p : PairOK J1 TA 51 147 [.int a] h) : PairOK JK TE 51 147 [.int a] h := up_q (M1 := m_X6_swap) (M2 := m_X7_swap) (c := F_cswap (cI h) a) (m := fun y => F_swap y a) p hJ rfl rfl (by decide) (by decide) (ux_cswap _ a) (ux_swap _ a) (q_swap hJ.2 a)
end
