/-! swap: two change seats -/
def swN (a b k : Nat) : Nat := if k = a then b else if k = b then a else k
theorem swsw {a b : Nat} (k : Nat) : swN a b (swN a b k) = k := by
  unfold swN
  by_cases h1 : k = a
  · rw [if_pos h1]
    by_cases h2 : b = a
    · rw [if_pos h2]; omega
    · rw [if_neg h2, if_pos rfl]; omega
  · rw [if_neg h1]
    by_cases h2 : k = b
    · rw [if_pos h2, if_pos rfl]; omega
    · rw [if_neg h2, if_neg h1, if_neg h2]
theorem swlt {a b n : Nat} (ha : a < n) (hb : b < n) {k : Nat} (hk : k < n) : swN a b k < n := by
  unfold swN
  by_cases h1 : k = a
  · rw [if_pos h1]; exact hb
  · rw [if_neg h1]
    by_cases h2 : k = b
    · rw [if_pos h2]; exact ha
    · rw [if_neg h2]; exact hk
/-! sums -/
def smS (f : NI) (n : Nat) : Int32 := itr (fun k x => x + f k) 0 n 0
theorem smS_s (f : NI) (n : Nat) : smS f (n + 1) = smS f n + f n := itr_0 _ _ _
theorem smS_c {f g : NI} (n : Nat) (h : ∀ k, k < n → f k = g k) : smS f n = smS g n := by
  induction n with
  | zero => unfold smS; rw [itr_z, itr_z]
  | succ n ih => rw [smS_s, smS_s, ih (fun k hk => h k (by omega)), h n (by omega)]
theorem smS_u (f : NI) {a : Nat} (v : Int32) (n : Nat) : a < n → smS (updN f a v) n + f a = smS f n + v := by
  induction n with
  | zero => exact fun h => absurd h (by omega)
  | succ n ih =>
    intro h
    rw [smS_s, smS_s]
    by_cases w : a = n
    · have e : smS (updN f a v) n = smS f n := smS_c n (fun k hk => if_neg (by omega))
      have e2 : updN f a v n = v := if_pos w.symm
      rw [e, e2, w, Int32.add_assoc, Int32.add_assoc, Int32.add_comm v (f n)]
    · have e2 : updN f a v n = f n := if_neg (by omega)
      rw [e2, Int32.add_assoc, Int32.add_comm (f n) (f a), ← Int32.add_assoc, ih (by omega), Int32.add_assoc, Int32.add_assoc, Int32.add_comm v (f n)]
theorem smS_w (f : NI) {a b n : Nat} (ha : a < n) (hb : b < n) (hab : a ≠ b) : smS (fun k => f (swN a b k)) n = smS f n := by
  have e : smS (fun k => f (swN a b k)) n = smS (updN (updN f a (f b)) b (f a)) n := smS_c n (fun k _ => by
    unfold updN swN
    by_cases h2 : k = b
    · have hk : ¬ k = a := by omega
      rw [if_neg hk, if_pos h2, if_pos h2]
    · by_cases h1 : k = a
      · rw [if_pos h1, if_neg h2, if_pos h1]
      · rw [if_neg h1, if_neg h2, if_neg h2, if_neg h1])
  have u1 := smS_u f (f b) n ha
  have u2 := smS_u (updN f a (f b)) (f a) n hb
  have eb : updN f a (f b) b = f b := if_neg (fun q => hab q.symm)
  rw [eb, u1] at u2
  rw [e]
  have c := congrArg (fun x => x - f b) u2
  rw [Int32.add_sub_cancel, Int32.add_sub_cancel] at c
  exact c
def lfF (J : TI) (t : Nat) (x : TS) (k : Nat) : Int32 := bif m_cmp .ne (jse J k - jse J k / 2 * 2) 0 then 0 else pul J t x k
def rfF (J : TI) (t : Nat) (x : TS) (k : Nat) : Int32 := bif m_cmp .ne (jse J k - jse J k / 2 * 2) 0 then pul J t x k else 0
theorem lrs_sm (J : TI) (t : Nat) (x : TS) (n : Nat) : lrs J t x n = (smS (lfF J t x) n, smS (rfF J t x) n) := by
  induction n with
  | zero =>
    unfold lrs smS
    rw [itr_z, itr_z, itr_z]
  | succ n ih =>
    have e1 : lrs J t x (n + 1) = lstep J t x n (lrs J t x n) := itr_0 _ _ _
    rw [e1, ih, smS_s, smS_s]
    unfold lstep lfF rfF
    cases m_cmp .ne (jse J n - jse J n / 2 * 2) 0 with
    | true => rw [kT, kT, kT, Int32.add_zero]
    | false => rw [kF, kF, kF, Int32.add_zero]
/-! two trips: the rowers' places changed, or what they are -/
def seJ (s : SG) (a b : Nat) : TI := ((s 10 0).toNatClampNeg, s 11, s 12, fun k => Int32.ofNat (swN a b k), s 13, s 14, s 10 5, s 10 6, befC s 255)
def wsJ (s : SG) (a b : Nat) : TI := tJ s (fun k => s 11 (swN a b k)) (fun k => s 12 (swN a b k)) (s 13) (s 14) 255
def RW_ (n a b : Nat) (x y : TS) : Prop := sme x = sme y ∧ spl' x = spl' y ∧ sth x = sth y ∧ ∀ k, k < n → smn x (swN a b k) = smn y k ∧ ssm x (swN a b k) = ssm y k
section SWP
variable {s : SG} {a b t : Nat} {x y : TS}
theorem pon_w (e : RW_ (s 10 0).toNatClampNeg a b x y) (k : Nat) : pon (wsJ s a b) t x (swN a b k) = pon (seJ s a b) t y k := by
  unfold pon
  rw [e.2.2.1]
  rfl
theorem pul_w (e : RW_ (s 10 0).toNatClampNeg a b x y) {k : Nat} (hk : k < (s 10 0).toNatClampNeg) : pul (wsJ s a b) t x (swN a b k) = pul (seJ s a b) t y k := by
  unfold pul
  rw [pon_w e k, (e.2.2.2 k hk).1]
  have e1 : jso (wsJ s a b) (swN a b k) = jso (seJ s a b) k := by show s 11 (swN a b (swN a b k)) = s 11 k; rw [swsw]
  have e2 : jpo (wsJ s a b) (swN a b k) = jpo (seJ s a b) k := by show s 12 (swN a b (swN a b k)) = s 12 k; rw [swsw]
  rw [e1, e2]
theorem lrs_w (ha : a < (s 10 0).toNatClampNeg) (hb : b < (s 10 0).toNatClampNeg) (hab : a ≠ b) (e : RW_ (s 10 0).toNatClampNeg a b x y) : lrs (wsJ s a b) t x (jn (wsJ s a b)) = lrs (seJ s a b) t y (jn (seJ s a b)) := by
  have n1 : jn (wsJ s a b) = (s 10 0).toNatClampNeg := rfl
  have n2 : jn (seJ s a b) = (s 10 0).toNatClampNeg := rfl
  rw [n1, n2, lrs_sm, lrs_sm, ← smS_w (lfF (wsJ s a b) t x) ha hb hab, ← smS_w (rfF (wsJ s a b) t x) ha hb hab]
  have l : ∀ k, k < (s 10 0).toNatClampNeg → lfF (wsJ s a b) t x (swN a b k) = lfF (seJ s a b) t y k := fun k hk => by
    unfold lfF
    rw [pul_w e hk]
    rfl
  have r : ∀ k, k < (s 10 0).toNatClampNeg → rfF (wsJ s a b) t x (swN a b k) = rfF (seJ s a b) t y k := fun k hk => by
    unfold rfF
    rw [pul_w e hk]
    rfl
  rw [smS_c (f := fun k => lfF (wsJ s a b) t x (swN a b k)) _ l, smS_c (f := fun k => rfF (wsJ s a b) t x (swN a b k)) _ r]
theorem beh_w (ha : a < (s 10 0).toNatClampNeg) (hb : b < (s 10 0).toNatClampNeg) (hab : a ≠ b) (e : RW_ (s 10 0).toNatClampNeg a b x y) : beh (wsJ s a b) t x = beh (seJ s a b) t y := by
  unfold beh
  rw [lrs_w ha hb hab e, e.2.1]
  rfl
theorem way_w (ha : a < (s 10 0).toNatClampNeg) (hb : b < (s 10 0).toNatClampNeg) (hab : a ≠ b) (e : RW_ (s 10 0).toNatClampNeg a b x y) : way (wsJ s a b) t x = way (seJ s a b) t y := by
  unfold way
  rw [lrs_w ha hb hab e]
  rfl
theorem tst_w (ha : a < (s 10 0).toNatClampNeg) (hb : b < (s 10 0).toNatClampNeg) (hab : a ≠ b) (e : RW_ (s 10 0).toNatClampNeg a b x y) : RW_ (s 10 0).toNatClampNeg a b (tst (wsJ s a b) t x) (tst (seJ s a b) t y) := by
  have g : grd (wsJ s a b) t x = grd (seJ s a b) t y := by unfold grd; rw [beh_w ha hb hab e]
  have m : me' (wsJ s a b) t x = me' (seJ s a b) t y := by unfold me'; rw [g, way_w ha hb hab e, e.1]
  have p : pl' (wsJ s a b) t x = pl' (seJ s a b) t y := by unfold pl'; rw [beh_w ha hb hab e]
  have ho : jho (wsJ s a b) = jho (seJ s a b) := rfl
  refine ⟨?_, ?_, ?_, fun k hk => ⟨?_, ?_⟩⟩
  · show (bif m_cmp .ne (sth x) (-1) then sme x else me' (wsJ s a b) t x) = (bif m_cmp .ne (sth y) (-1) then sme y else me' (seJ s a b) t y)
    rw [m, e.2.2.1, e.1]
  · show (bif m_cmp .ne (sth x) (-1) then spl' x else pl' (wsJ s a b) t x) = (bif m_cmp .ne (sth y) (-1) then spl' y else pl' (seJ s a b) t y)
    rw [p, e.2.2.1, e.2.1]
  · show (bif m_cmp .ne (sth x) (-1) then sth x else (bif m_cmp .lt (me' (wsJ s a b) t x) (jho (wsJ s a b)) then -1 else Int32.ofNat t)) = (bif m_cmp .ne (sth y) (-1) then sth y else (bif m_cmp .lt (me' (seJ s a b) t y) (jho (seJ s a b)) then -1 else Int32.ofNat t))
    rw [m, e.2.2.1, ho]
  · show mn' (wsJ s a b) t x (swN a b k) = mn' (seJ s a b) t y k
    unfold mn'
    rw [pon_w e k, (e.2.2.2 k hk).1]
  · show sm' (wsJ s a b) t x (swN a b k) = sm' (seJ s a b) t y k
    unfold sm'
    rw [pon_w e k, pul_w e hk, (e.2.2.2 k hk).2]
theorem trip_w (ha : a < (s 10 0).toNatClampNeg) (hb : b < (s 10 0).toNatClampNeg) (hab : a ≠ b) : ∀ t, RW_ (s 10 0).toNatClampNeg a b (trip (wsJ s a b) t) (trip (seJ s a b) t)
  | 0 => ⟨rfl, rfl, rfl, fun _ _ => ⟨rfl, rfl⟩⟩
  | t + 1 => tst_w ha hb hab (trip_w ha hb hab t)
end SWP
def mtS (s : SG) (a b : Nat) : Int32 := sme (trip (seJ s a b) 24)
theorem wo_cell {s c : SG} (f : Fr Wo s c) : ∀ b, b = 11 ∨ b = 12 ∨ b = 13 ∨ b = 14 → c b = s b := fun b hb => funext (fun j => by rcases hb with rfl | rfl | rfl | rfl <;> exact f _ j rfl)
/-- the class: two changed -/
theorem msC {s w : SG} (h : KG s) (f : Fr Wo s w) {a b : Nat} (hab : a < b) (hb : b < (s 10 0).toNatClampNeg) : (F_metresSwapped w (Int32.ofNat a) (Int32.ofNat b)).1 = mtS s a b ∧ Fr Wo s (F_metresSwapped w (Int32.ofNat a) (Int32.ofNat b)).2 := by
  have h8 := row8 h.1.1 h.2.1.1
  obtain ⟨g, eJ⟩ := KG.sd h f
  have o := otTake w
  have ca : (Int32.ofNat a).toNatClampNeg = a := ofn_c (by omega)
  have cb : (Int32.ofNat b).toNatClampNeg = b := ofn_c (by omega)
  have eF : F_metresSwapped w (Int32.ofNat a) (Int32.ofNat b) = (F_rowOther (uset (uset (uset (uset (F_take w) 54 (Int32.ofNat a).toNatClampNeg (F_take w 11 (Int32.ofNat b).toNatClampNeg)) 55 (Int32.ofNat a).toNatClampNeg (F_take w 12 (Int32.ofNat b).toNatClampNeg)) 54 (Int32.ofNat b).toNatClampNeg (F_take w 11 (Int32.ofNat a).toNatClampNeg)) 55 (Int32.ofNat b).toNatClampNeg (F_take w 12 (Int32.ofNat a).toNatClampNeg)) 59 23, F_rowOther (uset (uset (uset (uset (F_take w) 54 (Int32.ofNat a).toNatClampNeg (F_take w 11 (Int32.ofNat b).toNatClampNeg)) 55 (Int32.ofNat a).toNatClampNeg (F_take w 12 (Int32.ofNat b).toNatClampNeg)) 54 (Int32.ofNat b).toNatClampNeg (F_take w 11 (Int32.ofNat a).toNatClampNeg)) 55 (Int32.ofNat b).toNatClampNeg (F_take w 12 (Int32.ofNat a).toNatClampNeg))) := rfl
  rw [eF, ca, cb]
  have o2 := (((o.wso a (F_take w 11 b)).wpo a (F_take w 12 b)).wso b (F_take w 11 a)).wpo b (F_take w 12 a)
  have ft := fr_take w
  have e11 : ∀ k, F_take w 11 k = w 11 k := fun k => ft 11 k rfl
  have e12 : ∀ k, F_take w 12 k = w 12 k := fun k => ft 12 k rfl
  have o3 := o2.cg (so2 := fun k => w 11 (swN a b k)) (po2 := fun k => w 12 (swN a b k)) (ra2 := w 13) (ru2 := w 14) (fun k => by
    rw [e11, e11]
    unfold updN swN
    by_cases h2 : k = b
    · rw [if_pos h2, if_neg (by omega), if_pos h2]
    · rw [if_neg h2]
      by_cases h1 : k = a
      · rw [if_pos h1, if_pos h1]
      · rw [if_neg h1, if_neg h1, if_neg h2]) (fun k => by
    rw [e12, e12]
    unfold updN swN
    by_cases h2 : k = b
    · rw [if_pos h2, if_neg (by omega), if_pos h2]
    · rw [if_neg h2]
      by_cases h1 : k = a
      · rw [if_pos h1, if_pos h1]
      · rw [if_neg h1, if_neg h1, if_neg h2]) (fun _ => rfl) (fun _ => rfl)
  obtain ⟨r1, r2⟩ := rowO (by rw [f 10 0 rfl]; exact h8) g.2.2.1.2.2.2.2.1 o3
  generalize F_rowOther (uset (uset (uset (uset (F_take w) 54 a (F_take w 11 b)) 55 a (F_take w 12 b)) 54 b (F_take w 11 a)) 55 b (F_take w 12 a)) = z at *
  rw [mkF, mkS]
  refine ⟨?_, f.tr r2.2.2.2.2.2⟩
  have e59 : z 59 23 = sme (trip (tJ w (fun k => w 11 (swN a b k)) (fun k => w 12 (swN a b k)) (w 13) (w 14) 255) 24) := (r1 23 (by decide)).1
  have c := wo_cell f
  rw [eJ, c 11 (by decide), c 12 (by decide), c 13 (by decide), c 14 (by decide)] at e59
  rw [e59]
  exact (trip_w (s := s) (by omega) hb (by omega) 24).1
/-- the model: two seats changed -/
theorem msM {c z : SG} (g : KG c) (o : MtC c z (c 11) (c 12) (c 13) (c 14) 0) {a b : Nat} (hab : a < b) (hb : b < (c 10 0).toNatClampNeg) : F_runs (uset (uset z 135 a (Int32.ofNat b)) 135 b (Int32.ofNat a)) 123 19 = mtS c a b ∧ MtC c (uset (uset (F_runs (uset (uset z 135 a (Int32.ofNat b)) 135 b (Int32.ofNat a))) 135 a (Int32.ofNat a)) 135 b (Int32.ofNat b)) (c 11) (c 12) (c 13) (c 14) 0 := by
  have h8 := row8 g.1.1 g.2.1.1
  obtain ⟨o1, o2, o3, o4, o5, f⟩ := o
  have fw : Fr [(135, 135, none)] z (uset (uset z 135 a (Int32.ofNat b)) 135 b (Int32.ofNat a)) := Fr.uset rfl (Fr.uset rfl (Fr.rf _ _))
  have w5 : ∀ k, k < 8 → uset (uset z 135 a (Int32.ofNat b)) 135 b (Int32.ofNat a) 135 k = Int32.ofNat (swN a b k) := fun k hk => by
    unfold swN
    by_cases h2 : k = b
    · rw [if_neg (by omega), if_pos h2, h2]; exact uset_eq _ _ _ _
    · rw [uset_nj h2]
      by_cases h1 : k = a
      · rw [if_pos h1, h1]; exact uset_eq _ _ _ _
      · rw [if_neg h1, if_neg h2, uset_nj h1]; exact o4 k hk
  generalize uset (uset z 135 a (Int32.ofNat b)) 135 b (Int32.ofNat a) = w at *
  have f2 : Fr W_asTold c w := f.tr (fw.wk rfl)
  have E : eqJ (inM w) (seJ c a b) := by
    have en : jn (inM w) = (c 10 0).toNatClampNeg := by show (w 123 2).toNatClampNeg = _; rw [fw 123 2 rfl, o1]
    refine ⟨en, fun k hk => ?_, fun t ht => ?_, ?_, ?_⟩
    · rw [en] at hk
      exact ⟨(fw 126 k rfl).trans (o2 k hk).1, (fw 127 k rfl).trans (o2 k hk).2, w5 k (by omega)⟩
    · exact ⟨(fw 133 t rfl).trans (o3 t ht).1, (fw 134 t rfl).trans (o3 t ht).2, befT g.2.2.1 f2 ((fw 123 17 rfl).trans o5) hb0 t⟩
    · show w 123 9 = c 10 5
      rw [f2 123 9 rfl]
      exact g.2.2.1.2.2.2.2.2.1.symm
    · show w 123 10 = c 10 6
      rw [f2 123 10 rfl]
      exact g.2.2.1.2.2.2.2.2.2.symm
  have ov : ovJ (seJ c a b) := ovJ_of h8 (fun k hk => pw19 g.1.1 g.2.1.1 hk) (fun t ht => rt03 g.2.1.2.1 ht)
  obtain ⟨r, q⟩ := runMO (z := w) (by rw [fw 123 2 rfl, o1]; exact h8) (fun k hk => ⟨swN a b k, swlt (n := 8) (by omega) (by omega) hk, w5 k hk⟩) E ov
  generalize F_runs w = y at *
  refine ⟨r.1, ?_⟩
  have fy : Fr [(135, 135, none)] y (uset (uset y 135 a (Int32.ofNat a)) 135 b (Int32.ofNat b)) := Fr.uset rfl (Fr.uset rfl (Fr.rf _ _))
  have y5 : ∀ k, k < 8 → uset (uset y 135 a (Int32.ofNat a)) 135 b (Int32.ofNat b) 135 k = Int32.ofNat k := fun k hk => by
    by_cases h2 : k = b
    · rw [h2]; exact uset_eq _ _ _ _
    · rw [uset_nj h2]
      by_cases h1 : k = a
      · rw [h1]; exact uset_eq _ _ _ _
      · rw [uset_nj h1, q 135 k rfl, w5 k hk]
        unfold swN
        rw [if_neg h1, if_neg h2]
  generalize uset (uset y 135 a (Int32.ofNat a)) 135 b (Int32.ofNat b) = v at *
  have fv : Fr W_asTold w v := (q.wk rfl).tr (fy.wk rfl)
  exact ⟨(fy 123 2 rfl).trans ((q 123 2 rfl).trans ((fw 123 2 rfl).trans o1)), fun k hk => ⟨(fy 126 k rfl).trans ((q 126 k rfl).trans ((fw 126 k rfl).trans (o2 k hk).1)), (fy 127 k rfl).trans ((q 127 k rfl).trans ((fw 127 k rfl).trans (o2 k hk).2))⟩, fun t ht => ⟨(fy 133 t rfl).trans ((q 133 t rfl).trans ((fw 133 t rfl).trans (o3 t ht).1)), (fy 134 t rfl).trans ((q 134 t rfl).trans ((fw 134 t rfl).trans (o3 t ht).2))⟩, y5, (fy 123 17 rfl).trans ((q 123 17 rfl).trans ((fw 123 17 rfl).trans o5)), f2.tr fv⟩
/-! the farthest of all pairs -/
def swF (s : SG) (a b : Nat) (x : Option (Nat × Nat) × Int32) : Option (Nat × Nat) × Int32 := bif m_cmp .le (mtS s a b) x.2 then x else (some (a, b), mtS s a b)
def swI (s : SG) (n a m : Nat) (x : Option (Nat × Nat) × Int32) : Option (Nat × Nat) × Int32 := itr (swF s a) (a + 1) m x
def swO (s : SG) (n i : Nat) : Option (Nat × Nat) × Int32 := itr (fun a x => swI s n a (n - (a + 1)) x) 0 i (none, -1)
def enC (x : Option (Nat × Nat)) : Int32 × Int32 := match x with | none => (-1, -1) | some (a, b) => (Int32.ofNat a, Int32.ofNat b)
def enM (x : Option (Nat × Nat)) : Int32 := match x with | none => -1 | some (a, b) => (8 * Int32.ofNat a) + Int32.ofNat b
def okX (n : Nat) (x : Option (Nat × Nat) × Int32) : Prop := (∀ a b, x.1 = some (a, b) → a < b ∧ b < n) ∧ (x.1 = none → x.2 = -1)
theorem swF_ok {s : SG} {n a b : Nat} {x : Option (Nat × Nat) × Int32} (h : okX n x) (hab : a < b) (hb : b < n) : okX n (swF s a b x) := by
  unfold swF
  cases m_cmp .le (mtS s a b) x.2 with
  | true => rw [kT]; exact h
  | false =>
    rw [kF]
    exact ⟨fun c d e => (by cases e; exact ⟨hab, hb⟩), fun e => (by cases e)⟩
theorem swC {s : SG} (h : KG s) {a : Nat} (ha : a < (s 10 0).toNatClampNeg) (p : SG × Int32 × Int32 × Int32) (x : Option (Nat × Nat) × Int32) (f : Fr Wo s p.1) (e1 : (p.2.1, p.2.2.1) = enC x.1) (e2 : p.2.2.2 = x.2) : ∀ m, a + 1 + m ≤ (s 10 0).toNatClampNeg → Fr Wo s (itr (B_cswap_23 a) (a + 1) m p).1 ∧ ((itr (B_cswap_23 a) (a + 1) m p).2.1, (itr (B_cswap_23 a) (a + 1) m p).2.2.1) = enC (itr (swF s a) (a + 1) m x).1 ∧ (itr (B_cswap_23 a) (a + 1) m p).2.2.2 = (itr (swF s a) (a + 1) m x).2 := by
  intro m
  induction m with
  | zero => exact fun _ => ⟨f, e1, e2⟩
  | succ m ih =>
    intro hm
    obtain ⟨i1, i2, i3⟩ := ih (by omega)
    rw [itr_succ, itr_succ]
    generalize itr (B_cswap_23 a) (a + 1) m p = u at *
    generalize itr (swF s a) (a + 1) m x = v at *
    obtain ⟨m1, m2⟩ := msC h i1 (a := a) (b := a + 1 + m) (by omega) (by omega)
    have eB : B_cswap_23 a (a + 1 + m) u = ((F_metresSwapped u.1 (Int32.ofNat a) (Int32.ofNat (a + 1 + m))).2, (bif m_cmp .le (F_metresSwapped u.1 (Int32.ofNat a) (Int32.ofNat (a + 1 + m))).1 u.2.2.2 then (u.2.1, u.2.2.1, u.2.2.2) else (Int32.ofNat a, Int32.ofNat (a + 1 + m), (F_metresSwapped u.1 (Int32.ofNat a) (Int32.ofNat (a + 1 + m))).1)).1, (bif m_cmp .le (F_metresSwapped u.1 (Int32.ofNat a) (Int32.ofNat (a + 1 + m))).1 u.2.2.2 then (u.2.1, u.2.2.1, u.2.2.2) else (Int32.ofNat a, Int32.ofNat (a + 1 + m), (F_metresSwapped u.1 (Int32.ofNat a) (Int32.ofNat (a + 1 + m))).1)).2.1, (bif m_cmp .le (F_metresSwapped u.1 (Int32.ofNat a) (Int32.ofNat (a + 1 + m))).1 u.2.2.2 then (u.2.1, u.2.2.1, u.2.2.2) else (Int32.ofNat a, Int32.ofNat (a + 1 + m), (F_metresSwapped u.1 (Int32.ofNat a) (Int32.ofNat (a + 1 + m))).1)).2.2) := rfl
    rw [eB, m1]
    generalize F_metresSwapped u.1 (Int32.ofNat a) (Int32.ofNat (a + 1 + m)) = y at *
    refine ⟨m2, ?_⟩
    unfold swF
    rw [i3]
    generalize mtS s a (a + 1 + m) = d
    cases m_cmp .le d v.2 with
    | true =>
      dsimp only
      rw [kT, kT]
      exact ⟨i2, rfl⟩
    | false =>
      dsimp only
      rw [kF, kF]
      exact ⟨rfl, rfl⟩
theorem swM {c : SG} (g : KG c) {a : Nat} (ha : a < (c 10 0).toNatClampNeg) (p : SG × Int32 × Int32) (x : Option (Nat × Nat) × Int32) (o : MtC c p.1 (c 11) (c 12) (c 13) (c 14) 0) (e1 : p.2.1 = enM x.1) (e2 : p.2.2 = x.2) : ∀ m, a + 1 + m ≤ (c 10 0).toNatClampNeg → MtC c (itr (B_swapOf_16 a) (a + 1) m p).1 (c 11) (c 12) (c 13) (c 14) 0 ∧ (itr (B_swapOf_16 a) (a + 1) m p).2.1 = enM (itr (swF c a) (a + 1) m x).1 ∧ (itr (B_swapOf_16 a) (a + 1) m p).2.2 = (itr (swF c a) (a + 1) m x).2 := by
  intro m
  induction m with
  | zero => exact fun _ => ⟨o, e1, e2⟩
  | succ m ih =>
    intro hm
    obtain ⟨i1, i2, i3⟩ := ih (by omega)
    rw [itr_succ, itr_succ]
    generalize itr (B_swapOf_16 a) (a + 1) m p = u at *
    generalize itr (swF c a) (a + 1) m x = v at *
    obtain ⟨m1, m2⟩ := msM g i1 (a := a) (b := a + 1 + m) (by omega) (by omega)
    have eB : B_swapOf_16 a (a + 1 + m) u = ((uset (uset (F_runs (uset (uset u.1 135 a (Int32.ofNat (a + 1 + m))) 135 (a + 1 + m) (Int32.ofNat a))) 135 a (Int32.ofNat a)) 135 (a + 1 + m) (Int32.ofNat (a + 1 + m))), (bif m_cmp .le (F_runs (uset (uset u.1 135 a (Int32.ofNat (a + 1 + m))) 135 (a + 1 + m) (Int32.ofNat a)) 123 19) u.2.2 then u.2.1 else (8 * (Int32.ofNat a)) + (Int32.ofNat (a + 1 + m))), (bif m_cmp .le (F_runs (uset (uset u.1 135 a (Int32.ofNat (a + 1 + m))) 135 (a + 1 + m) (Int32.ofNat a)) 123 19) u.2.2 then u.2.2 else F_runs (uset (uset u.1 135 a (Int32.ofNat (a + 1 + m))) 135 (a + 1 + m) (Int32.ofNat a)) 123 19)) := rfl
    rw [eB, m1]
    generalize F_runs (uset (uset u.1 135 a (Int32.ofNat (a + 1 + m))) 135 (a + 1 + m) (Int32.ofNat a)) = y at *
    refine ⟨m2, ?_⟩
    unfold swF
    rw [i3]
    generalize mtS c a (a + 1 + m) = d
    cases m_cmp .le d v.2 with
    | true =>
      dsimp only
      rw [kT, kT, kT]
      exact ⟨i2, rfl⟩
    | false =>
      dsimp only
      rw [kF, kF, kF]
      exact ⟨rfl, rfl⟩
theorem swI_ok {s : SG} {n a : Nat} {x : Option (Nat × Nat) × Int32} (h : okX n x) : ∀ m, a + 1 + m ≤ n → okX n (itr (swF s a) (a + 1) m x) := by
  intro m
  induction m with
  | zero => exact fun _ => h
  | succ m ih =>
    intro hm
    rw [itr_succ]
    exact swF_ok (ih (by omega)) (by omega) (by omega)
theorem swOC {s : SG} (h : KG s) : ∀ i, i ≤ (s 10 0).toNatClampNeg → Fr Wo s (itr B_cswap_14 0 i (s, (-1), (-1), (-1))).1 ∧ ((itr B_cswap_14 0 i (s, (-1), (-1), (-1))).2.1, (itr B_cswap_14 0 i (s, (-1), (-1), (-1))).2.2.1) = enC (swO s (s 10 0).toNatClampNeg i).1 ∧ (itr B_cswap_14 0 i (s, (-1), (-1), (-1))).2.2.2 = (swO s (s 10 0).toNatClampNeg i).2 := by
  intro i
  induction i with
  | zero => exact fun _ => ⟨Fr.rf _ _, rfl, rfl⟩
  | succ i ih =>
    intro hi
    obtain ⟨i1, i2, i3⟩ := ih (by omega)
    have e0 : swO s (s 10 0).toNatClampNeg (i + 1) = swI s (s 10 0).toNatClampNeg i ((s 10 0).toNatClampNeg - (i + 1)) (swO s (s 10 0).toNatClampNeg i) := itr_0 _ _ _
    rw [itr_0, e0]
    generalize itr B_cswap_14 0 i (s, (-1), (-1), (-1)) = u at *
    generalize swO s (s 10 0).toNatClampNeg i = v at *
    have eB : B_cswap_14 i u = itr (B_cswap_23 i) (i + 1) ((u.1 10 0).toNatClampNeg - (i + 1)) u := rfl
    rw [eB, i1 10 0 rfl]
    exact swC h (by omega) u v i1 i2 i3 _ (by omega)
theorem swOM {c : SG} (g : KG c) : ∀ i, i ≤ (c 10 0).toNatClampNeg → MtC c (itr B_swapOf_8 0 i (F_asTold c, (-1), (-1))).1 (c 11) (c 12) (c 13) (c 14) 0 ∧ (itr B_swapOf_8 0 i (F_asTold c, (-1), (-1))).2.1 = enM (swO c (c 10 0).toNatClampNeg i).1 ∧ (itr B_swapOf_8 0 i (F_asTold c, (-1), (-1))).2.2 = (swO c (c 10 0).toNatClampNeg i).2 := by
  intro i
  induction i with
  | zero => exact fun _ => ⟨mtTold g.1.1 g.2.1, rfl, rfl⟩
  | succ i ih =>
    intro hi
    obtain ⟨i1, i2, i3⟩ := ih (by omega)
    have e0 : swO c (c 10 0).toNatClampNeg (i + 1) = swI c (c 10 0).toNatClampNeg i ((c 10 0).toNatClampNeg - (i + 1)) (swO c (c 10 0).toNatClampNeg i) := itr_0 _ _ _
    rw [itr_0, e0]
    generalize itr B_swapOf_8 0 i (F_asTold c, (-1), (-1)) = u at *
    generalize swO c (c 10 0).toNatClampNeg i = v at *
    have eB : B_swapOf_8 i u = itr (B_swapOf_16 i) (i + 1) ((u.1 123 2).toNatClampNeg - (i + 1)) u := rfl
    rw [eB, i1.1]
    exact swM g (by omega) u v i1 i2 i3 _ (by omega)
theorem swO_ok (s : SG) (n : Nat) : ∀ i, i ≤ n → okX n (swO s n i) := by
  intro i
  induction i with
  | zero => exact fun _ => ⟨fun a b e => (by cases e), fun _ => rfl⟩
  | succ i ih =>
    intro hi
    have e0 : swO s n (i + 1) = swI s n i (n - (i + 1)) (swO s n i) := itr_0 _ _ _
    rw [e0]
    exact swI_ok (ih (by omega)) _ (by omega)
theorem en8 : ∀ a, a < 8 → ∀ b, b < 8 → ((8 * Int32.ofNat a) + Int32.ofNat b) / 8 = Int32.ofNat a ∧ ((8 * Int32.ofNat a) + Int32.ofNat b) - ((8 * Int32.ofNat a) + Int32.ofNat b) / 8 * 8 = Int32.ofNat b ∧ m_cmp .ne ((8 * Int32.ofNat a) + Int32.ofNat b) (-1) = true := by decide
theorem q_swap {s : SG} (h : KF s) (wh : Int32) : QK (F_cswap s wh) (fun y => F_swap y wh) := by
  refine ⟨(kf_swap h wh).ag ((fr_swap _ wh).ag DF rfl), ?_⟩
  have eC : F_cswap s wh = bif m_cmp .ne (F_isBelow s wh 3) 0 then (bif m_cmp .ne wh 0 then (bif m_cmp .ne wh 1 then (itr B_cswap_14 0 ((s 10 0).toNatClampNeg) (s, (-1), (-1), (-1))).2.2.2 else (itr B_cswap_14 0 ((s 10 0).toNatClampNeg) (s, (-1), (-1), (-1))).2.2.1, (itr B_cswap_14 0 ((s 10 0).toNatClampNeg) (s, (-1), (-1), (-1))).1) else ((itr B_cswap_14 0 ((s 10 0).toNatClampNeg) (s, (-1), (-1), (-1))).2.1, (itr B_cswap_14 0 ((s 10 0).toNatClampNeg) (s, (-1), (-1), (-1))).1)) else ((-2), s) := rfl
  have eM : ∀ y, F_swap y wh = bif m_cmp .eq (F_isThree y wh) 0 then ((-2 : Int32), y) else (bif m_cmp .ne (itr B_swapOf_8 0 ((F_asTold y 123 2).toNatClampNeg) (F_asTold y, (-1), (-1))).2.1 (-1) then (bif m_cmp .ne wh 0 then (bif m_cmp .ne wh 1 then (itr B_swapOf_8 0 ((F_asTold y 123 2).toNatClampNeg) (F_asTold y, (-1), (-1))).2.2 else (itr B_swapOf_8 0 ((F_asTold y 123 2).toNatClampNeg) (F_asTold y, (-1), (-1))).2.1 - (itr B_swapOf_8 0 ((F_asTold y 123 2).toNatClampNeg) (F_asTold y, (-1), (-1))).2.1 / 8 * 8) else (itr B_swapOf_8 0 ((F_asTold y 123 2).toNatClampNeg) (F_asTold y, (-1), (-1))).2.1 / 8) else (-1 : Int32), (itr B_swapOf_8 0 ((F_asTold y 123 2).toNatClampNeg) (F_asTold y, (-1), (-1))).1) := fun _ => rfl
  have h8 := row8 h.1.1.1 h.1.2.1.1
  rw [bl_n] at eC
  cases q : bl wh 3 with
  | false =>
    rw [q, kF] at eC
    rw [eC]
    dsimp only
    rw [eM, is3_e, q, lF, kT]
  | true =>
    rw [q, kT] at eC
    rw [eC]
    obtain ⟨f, e1, e2⟩ := swOC h.1 _ (Nat.le_refl _)
    generalize itr B_cswap_14 0 ((s 10 0).toNatClampNeg) (s, (-1), (-1), (-1)) = u at *
    obtain ⟨c, p1, p2, p3⟩ := u
    dsimp only at f e1 e2
    obtain ⟨g, eJ⟩ := KG.sd h.1 f
    have cl := wo_cell f
    have eS : swO c = swO s := by
      have em : mtS c = mtS s := by
        funext a b
        unfold mtS seJ
        rw [befC_ag (f.ag DJ rfl) 255, f 10 0 rfl, f 10 5 rfl, f 10 6 rfl, cl 11 (by decide), cl 12 (by decide), cl 13 (by decide), cl 14 (by decide)]
      have ef : swF c = swF s := by
        funext a b x
        unfold swF
        rw [em]
      have ei : swI c = swI s := by
        funext n a m x
        unfold swI
        rw [ef]
      funext n i
      unfold swO
      rw [ei]
    obtain ⟨-, d1, d2⟩ := swOM g _ (Nat.le_refl _)
    rw [eS, f 10 0 rfl] at d1 d2
    have mt := mtTold g.1.1 g.2.1
    have en : (F_asTold c 123 2).toNatClampNeg = (s 10 0).toNatClampNeg := by rw [mt.1, f 10 0 rfl]
    have ok := swO_ok s (s 10 0).toNatClampNeg (s 10 0).toNatClampNeg (Nat.le_refl _)
    have key : ((bif m_cmp .ne wh 0 then (bif m_cmp .ne wh 1 then p3 else p2, c) else (p1, c) : Int32 × SG)).2 = c := by
      cases m_cmp .ne wh 0 <;> rfl
    show _ = (F_swap ((bif m_cmp .ne wh 0 then (bif m_cmp .ne wh 1 then p3 else p2, c) else (p1, c) : Int32 × SG)).2 wh).1
    rw [key, eM, is3_e, q, lT, kF, en, mkF, d1, d2, e2]
    generalize swO s (s 10 0).toNatClampNeg (s 10 0).toNatClampNeg = v at *
    obtain ⟨w, r⟩ := v
    cases w with
    | none =>
      have r1 := ok.2 rfl
      cases e1
      dsimp only at r1 ⊢
      rw [r1]
      have m1 : m_cmp .ne (enM none) (-1) = false := rfl
      rw [m1, kF]
      cases m_cmp .ne wh 0
      · rfl
      · cases m_cmp .ne wh 1 <;> rfl
    | some ab =>
      obtain ⟨a, b⟩ := ab
      obtain ⟨l1, l2⟩ := ok.1 a b rfl
      obtain ⟨n1, n2, n3⟩ := en8 a (by omega) b (by omega)
      have em : enM (some (a, b)) = (8 * Int32.ofNat a) + Int32.ofNat b := rfl
      have ec : enC (some (a, b)) = (Int32.ofNat a, Int32.ofNat b) := rfl
      dsimp only at e1 ⊢
      rw [ec] at e1
      have e3 : p1 = Int32.ofNat a := congrArg Prod.fst e1
      have e4 : p2 = Int32.ofNat b := congrArg Prod.snd e1
      rw [em, n3, kT, n2, n1, e3, e4]
      cases m_cmp .ne wh 0
      · rfl
      · cases m_cmp .ne wh 1 <;> rfl
