/-! stroke -/
def kJ (s : SG) (m v : Nat) : TI := tJ s (s 11) (s 12) (updN (s 13) m (Int32.ofNat v)) (s 14) 255
def kV (s : SG) (m v : Nat) : Int32 := sme (trip (kJ s m v) 24)
def skF (s : SG) (m : Nat) (v : Nat) (x : Int32 × Int32) : Int32 × Int32 := bif m_cmp .le (kV s m v) x.2 then x else (Int32.ofNat v, kV s m v)
theorem v03 {v : Nat} (h : v < 4) : 0 ≤ (Int32.ofNat v).toInt ∧ (Int32.ofNat v).toInt ≤ 3 := by
  rw [ofn_int (by omega)]
  omega
theorem q_stroke {s : SG} (h : KF s) (mi wh : Int32) : QK (F_cstroke s mi wh) (fun y => F_stroke y mi wh) := by
  refine ⟨(kf_stroke h mi wh).ag ((fr_stroke _ mi wh).ag DF rfl), ?_⟩
  have eC : F_cstroke s mi wh = bif m_cmp .eq (F_isBelow s mi 24) 0 then (((-2), s)) else (bif m_cmp .ne (F_isBelow s wh 2) 0 then (bif m_cmp .ne wh 0 then (itr (B_cstroke_21 mi) 0 4 (F_take s, (-1), (-1))).2.2 else (itr (B_cstroke_21 mi) 0 4 (F_take s, (-1), (-1))).2.1, (itr (B_cstroke_21 mi) 0 4 (F_take s, (-1), (-1))).1) else (((-2), s))) := rfl
  have eM : ∀ y, F_stroke y mi wh = bif m_cmp .eq (F_isMinute y mi) 0 then ((-2 : Int32), y) else (bif m_cmp .eq (F_isTwo y wh) 0 then ((-2 : Int32), y) else (bif m_cmp .ne wh 0 then (itr (B_strokeOf_8 mi) 0 4 (F_asTold y, (-1), (-1))).2.2 else (itr (B_strokeOf_8 mi) 0 4 (F_asTold y, (-1), (-1))).2.1, (itr (B_strokeOf_8 mi) 0 4 (F_asTold y, (-1), (-1))).1)) := fun _ => rfl
  dsimp only
  rw [eC, bl_e, bl_n]
  cases q : bl mi 24 with
  | false => rw [lF, kT, eM, isM_e, q, lF, kT]
  | true =>
    rw [lT, kF]
    cases q2 : bl wh 2 with
    | false => rw [kF, eM, isM_e, q, lT, kF, is2_e, q2, lF, kT]
    | true =>
      rw [kT]
      have h8 := row8 h.1.1.1 h.1.2.1.1
      have hpw : ∀ k, k < (s 10 0).toNatClampNeg → 1 ≤ (s 12 k).toInt ∧ (s 12 k).toInt ≤ 9 := fun k hk => pw19 h.1.1.1 h.1.2.1.1 hk
      have hrt : ∀ t, t < 24 → 0 ≤ (s 13 t).toInt ∧ (s 13 t).toInt ≤ 3 := fun t ht => rt03 h.1.2.1.2.1 ht
      have A : ∀ i, i ≤ 4 → (∃ x, OtC s (itr (B_cstroke_21 mi) 0 i (F_take s, (-1), (-1))).1 (s 11) (s 12) (updN (s 13) mi.toNatClampNeg x) (s 14)) ∧ (itr (B_cstroke_21 mi) 0 i (F_take s, (-1), (-1))).2 = itr (skF s mi.toNatClampNeg) 0 i (-1, -1) := by
        intro i
        induction i with
        | zero => exact fun _ => ⟨⟨s 13 mi.toNatClampNeg, by rw [updS]; exact otTake s⟩, rfl⟩
        | succ i ih =>
          intro hi
          obtain ⟨⟨x, o⟩, e⟩ := ih (by omega)
          rw [itr_0, itr_0, ← e]
          generalize itr (B_cstroke_21 mi) 0 i (F_take s, (-1), (-1)) = a at *
          have o2 := o.wra mi.toNatClampNeg (Int32.ofNat i)
          rw [upd2] at o2
          obtain ⟨r1, r2⟩ := rowO h8 h.1.2.2.1.2.2.2.2.1 o2
          have eB : B_cstroke_21 mi i a = (F_rowOther (uset a.1 56 mi.toNatClampNeg (Int32.ofNat i)), (bif m_cmp .le (F_rowOther (uset a.1 56 mi.toNatClampNeg (Int32.ofNat i)) 59 23) a.2.2 then (a.2.1, a.2.2) else (Int32.ofNat i, F_rowOther (uset a.1 56 mi.toNatClampNeg (Int32.ofNat i)) 59 23)).1, (bif m_cmp .le (F_rowOther (uset a.1 56 mi.toNatClampNeg (Int32.ofNat i)) 59 23) a.2.2 then (a.2.1, a.2.2) else (Int32.ofNat i, F_rowOther (uset a.1 56 mi.toNatClampNeg (Int32.ofNat i)) 59 23)).2) := rfl
          rw [eB]
          generalize F_rowOther (uset a.1 56 mi.toNatClampNeg (Int32.ofNat i)) = z at *
          refine ⟨⟨_, r2⟩, ?_⟩
          have e59 : z 59 23 = kV s mi.toNatClampNeg i := (r1 23 (by decide)).1
          rw [e59]
          unfold skF
          generalize kV s mi.toNatClampNeg i = y
          cases m_cmp .le y a.2.2 <;> rfl
      obtain ⟨⟨x, o⟩, e⟩ := A 4 (Nat.le_refl _)
      generalize itr (B_cstroke_21 mi) 0 4 (F_take s, (-1), (-1)) = a at *
      obtain ⟨c, p⟩ := a
      dsimp only at o e ⊢
      obtain ⟨g, eJ⟩ := KG.sd h.1 o.2.2.2.2.2
      have fo := o.2.2.2.2.2
      have cell : ∀ b, b = 11 ∨ b = 12 ∨ b = 13 ∨ b = 14 → c b = s b := fun b hb => funext (fun j => by rcases hb with rfl | rfl | rfl | rfl <;> exact fo _ j rfl)
      have eSV : kV c mi.toNatClampNeg = kV s mi.toNatClampNeg := by
        funext v
        unfold kV kJ
        rw [eJ, cell 11 (by decide), cell 12 (by decide), cell 13 (by decide), cell 14 (by decide)]
      rw [eM, isM_e, q, lT, kF, is2_e, q2, lT, kF]
      have B : ∀ i, i ≤ 4 → (∃ x, MtC c (itr (B_strokeOf_8 mi) 0 i (F_asTold c, (-1), (-1))).1 (c 11) (c 12) (updN (c 13) mi.toNatClampNeg x) (c 14) 0) ∧ (itr (B_strokeOf_8 mi) 0 i (F_asTold c, (-1), (-1))).2 = itr (skF s mi.toNatClampNeg) 0 i (-1, -1) := by
        intro i
        induction i with
        | zero => exact fun _ => ⟨⟨c 13 mi.toNatClampNeg, by rw [updS]; exact mtTold g.1.1 g.2.1⟩, rfl⟩
        | succ i ih =>
          intro hi
          obtain ⟨⟨x, o⟩, e⟩ := ih (by omega)
          rw [itr_0, itr_0, ← e]
          generalize itr (B_strokeOf_8 mi) 0 i (F_asTold c, (-1), (-1)) = a at *
          have o2 := o.wra mi.toNatClampNeg (Int32.ofNat i)
          rw [upd2] at o2
          have ov : ovJ (tJ c (c 11) (c 12) (updN (c 13) mi.toNatClampNeg (Int32.ofNat i)) (c 14) 255) := ovT (by rw [fo 10 0 rfl]; exact h8) (fun k hk => by rw [fo 10 0 rfl] at hk; rw [cell 12 (by decide)]; exact hpw k hk) (upd_b (fun t ht => by rw [cell 13 (by decide)]; exact hrt t ht) (v03 (by omega)))
          obtain ⟨r1, r2⟩ := runT g.2.2.1 (by rw [fo 10 0 rfl]; exact h8) o2 bit0_ ov
          have eB : B_strokeOf_8 mi i a = (F_runs (uset a.1 133 mi.toNatClampNeg (Int32.ofNat i)), (bif m_cmp .le (F_runs (uset a.1 133 mi.toNatClampNeg (Int32.ofNat i)) 123 19) a.2.2 then a.2.1 else Int32.ofNat i), (bif m_cmp .le (F_runs (uset a.1 133 mi.toNatClampNeg (Int32.ofNat i)) 123 19) a.2.2 then a.2.2 else F_runs (uset a.1 133 mi.toNatClampNeg (Int32.ofNat i)) 123 19)) := rfl
          rw [eB]
          generalize F_runs (uset a.1 133 mi.toNatClampNeg (Int32.ofNat i)) = z at *
          refine ⟨⟨_, r2⟩, ?_⟩
          have eN : z 123 19 = kV s mi.toNatClampNeg i := by
            rw [r1.1, ← eSV]
            rfl
          rw [eN]
          unfold skF
          generalize kV s mi.toNatClampNeg i = y
          cases m_cmp .le y a.2.2 <;> rfl
      obtain ⟨-, e2⟩ := B 4 (Nat.le_refl _)
      generalize itr (B_strokeOf_8 mi) 0 4 (F_asTold c, (-1), (-1)) = b at *
      dsimp only
      rw [e2, ← e]
/-! years -/
def shY (v : Int32) : Int32 := (Int32.toUInt32 v >>> (Int32.toUInt32 16 &&& Int32.toUInt32 31)).toInt32
def rrY (v : Int32) : Int32 := shY v - shY v / 4 * 4
theorem shB (v : Int32) : 0 ≤ (shY v).toInt ∧ (shY v).toInt ≤ 65535 := by
  have e : (shY v).toBitVec = v.toBitVec >>> (16 : Nat) := rfl
  have n : (shY v).toBitVec.toNat = v.toBitVec.toNat / 65536 := by
    rw [e, BitVec.toNat_ushiftRight, Nat.shiftRight_eq_div_pow]
  have l := v.toBitVec.isLt
  have i : (shY v).toInt = ((shY v).toBitVec.toNat : Int) := by
    show (shY v).toBitVec.toInt = _
    rw [BitVec.toInt_eq_toNat_cond, if_pos (by rw [n]; omega)]
  rw [i, n]
  omega
theorem rr03 (v : Int32) : 0 ≤ (rrY v).toInt ∧ (rrY v).toInt ≤ 3 := by
  obtain ⟨a, b⟩ := shB v
  unfold rrY
  generalize shY v = x at *
  have e4 : (4 : Int32).toInt = 4 := by decide
  have d : (x / 4).toInt = x.toInt / 4 := by
    rw [Int32.toInt_div_of_ne_right _ _ (by decide), e4]
    exact Int.tdiv_eq_ediv_of_nonneg a
  have m : (x / 4 * 4).toInt = x.toInt / 4 * 4 := by
    rw [i32_mul (by rw [d, e4]; omega) (by rw [d, e4]; omega), d, e4]
  rw [i32_sub (by rw [m]; omega) (by rw [m]; omega), m]
  omega
def lotY (seed : Int32) : Nat → Int32
  | 0 => seed
  | i + 1 => (1103515245 * lotY seed i) + 12345
def ratY (seed n : Int32) (t : Nat) : Int32 := bif m_cmp .ge (Int32.ofNat t) n then (2 : Int32) else rrY (lotY seed (t + 1))
def mixN (f g : NI) (i : Nat) : NI := fun t => if t < i then f t else g t
theorem mix0 (f g : NI) : mixN f g 0 = g := by
  funext t
  exact if_neg (by omega)
theorem mixS (f g : NI) (i : Nat) : updN (mixN f g i) i (f i) = mixN f g (i + 1) := by
  funext t
  unfold updN mixN
  by_cases e : t = i
  · rw [if_pos e, if_pos (by omega), e]
  · rw [if_neg e]
    by_cases w : t < i
    · rw [if_pos w, if_pos (by omega)]
    · rw [if_neg w, if_neg (by omega)]
theorem rat03 (seed n : Int32) (t : Nat) : 0 ≤ (ratY seed n t).toInt ∧ (ratY seed n t).toInt ≤ 3 := by
  unfold ratY
  cases m_cmp .ge (Int32.ofNat t) n with
  | true => exact (show 0 ≤ (2 : Int32).toInt ∧ (2 : Int32).toInt ≤ 3 from by decide)
  | false => exact rr03 _
theorem q_years {s : SG} (h : KF s) (sd n wh : Int32) : QK (F_cyears s sd n wh) (fun y => F_years y sd n wh) := by
  refine ⟨(kf_years h sd n wh).ag ((fr_years _ sd n wh).ag DF rfl), ?_⟩
  have eC : F_cyears s sd n wh = bif m_cmp .eq (F_isBelow s n 25) 0 then (((-2), s)) else (bif m_cmp .ne (F_isBelow s wh 2) 0 then (bif m_cmp .ne wh 0 then F_rowOther (itr (B_cyears_19 n) 0 24 (F_take s, sd)).1 60 23 else F_rowOther (itr (B_cyears_19 n) 0 24 (F_take s, sd)).1 59 23, F_rowOther (itr (B_cyears_19 n) 0 24 (F_take s, sd)).1) else (((-2), s))) := rfl
  have eM : ∀ y, F_years y sd n wh = bif m_cmp .eq (F_in y n 0 24) 0 then ((-2 : Int32), y) else (bif m_cmp .eq (F_isTwo y wh) 0 then ((-2 : Int32), y) else (bif m_cmp .ne wh 0 then F_runs (itr (B_yearsOf_6 n) 0 24 (F_asTold y, sd)).1 123 20 else F_runs (itr (B_yearsOf_6 n) 0 24 (F_asTold y, sd)).1 123 19, F_runs (itr (B_yearsOf_6 n) 0 24 (F_asTold y, sd)).1)) := fun _ => rfl
  dsimp only
  rw [eC, bl_e, bl_n]
  cases q : bl n 25 with
  | false => rw [lF, kT, eM, in_e s n 24 25 rfl, q, lF, kT]
  | true =>
    rw [lT, kF]
    cases q2 : bl wh 2 with
    | false => rw [kF, eM, in_e s n 24 25 rfl, q, lT, kF, is2_e, q2, lF, kT]
    | true =>
      rw [kT]
      have h8 := row8 h.1.1.1 h.1.2.1.1
      have hpw : ∀ k, k < (s 10 0).toNatClampNeg → 1 ≤ (s 12 k).toInt ∧ (s 12 k).toInt ≤ 9 := fun k hk => pw19 h.1.1.1 h.1.2.1.1 hk
      obtain ⟨en, ln⟩ := bl_ofn q
      have ln : n.toNatClampNeg < 25 := ln
      have gi : ∀ i, i < 24 → m_cmp .ge (Int32.ofNat i) n = decide (n.toNatClampNeg ≤ i) := fun i hi => by
        by_cases w : n.toNatClampNeg ≤ i
        · rw [decide_eq_true w, en]
          exact m_ge_iff.mpr (by rw [ofn_int (by omega), ofn_int (by omega)]; omega)
        · rw [decide_eq_false w]
          exact ge_F (by omega)
      have A : ∀ i, i ≤ 24 → OtC s (itr (B_cyears_19 n) 0 i (F_take s, sd)).1 (s 11) (s 12) (mixN (ratY sd n) (s 13) i) (s 14) ∧ (itr (B_cyears_19 n) 0 i (F_take s, sd)).2 = lotY sd i := by
        intro i
        induction i with
        | zero => exact fun _ => ⟨by rw [mix0]; exact otTake s, rfl⟩
        | succ i ih =>
          intro hi
          obtain ⟨o, e⟩ := ih (by omega)
          rw [itr_0]
          generalize itr (B_cyears_19 n) 0 i (F_take s, sd) = a at *
          have eB : B_cyears_19 n i a = (uset a.1 56 i (bif m_cmp .ge (Int32.ofNat i) n then (2 : Int32) else rrY ((1103515245 * a.2) + 12345)), (1103515245 * a.2) + 12345) := rfl
          rw [eB, e]
          refine ⟨?_, rfl⟩
          have o2 := o.wra i (ratY sd n i)
          rw [mixS] at o2
          exact o2
      obtain ⟨o, -⟩ := A 24 (Nat.le_refl _)
      generalize itr (B_cyears_19 n) 0 24 (F_take s, sd) = a at *
      obtain ⟨r1, r2⟩ := rowO h8 h.1.2.2.1.2.2.2.2.1 o
      generalize F_rowOther a.1 = c at *
      obtain ⟨g, eJ⟩ := KG.sd h.1 r2.2.2.2.2.2
      have fo := r2.2.2.2.2.2
      have cell : ∀ b, b = 11 ∨ b = 12 ∨ b = 13 ∨ b = 14 → c b = s b := fun b hb => funext (fun j => by rcases hb with rfl | rfl | rfl | rfl <;> exact fo _ j rfl)
      dsimp only
      rw [eM, in_e c n 24 25 rfl, q, lT, kF, is2_e, q2, lT, kF]
      have B : ∀ i, i ≤ 24 → MtC c (itr (B_yearsOf_6 n) 0 i (F_asTold c, sd)).1 (c 11) (c 12) (mixN (ratY sd n) (c 13) i) (c 14) 0 ∧ (itr (B_yearsOf_6 n) 0 i (F_asTold c, sd)).2 = lotY sd (min i n.toNatClampNeg) := by
        intro i
        induction i with
        | zero => exact fun _ => ⟨by rw [mix0]; exact mtTold g.1.1 g.2.1, by rw [Nat.zero_min]; rfl⟩
        | succ i ih =>
          intro hi
          obtain ⟨o, e⟩ := ih (by omega)
          rw [itr_0]
          generalize itr (B_yearsOf_6 n) 0 i (F_asTold c, sd) = a at *
          have eB : B_yearsOf_6 n i a = (uset a.1 133 i (bif m_cmp .ge (Int32.ofNat i) n then (2 : Int32) else rrY (bif m_cmp .ge (Int32.ofNat i) n then a.2 else (1103515245 * a.2) + 12345)), bif m_cmp .ge (Int32.ofNat i) n then a.2 else (1103515245 * a.2) + 12345) := rfl
          have o2 := o.wra i (ratY sd n i)
          rw [mixS] at o2
          have eR : ratY sd n i = bif m_cmp .ge (Int32.ofNat i) n then (2 : Int32) else rrY (lotY sd (i + 1)) := rfl
          rw [eB]
          rw [eR] at o2
          have gg := gi i (by omega)
          by_cases w : n.toNatClampNeg ≤ i
          · rw [decide_eq_true w] at gg
            rw [gg, kT] at o2
            rw [gg, kT, kT]
            refine ⟨o2, ?_⟩
            show a.2 = _
            rw [e, show min i n.toNatClampNeg = min (i + 1) n.toNatClampNeg by omega]
          · rw [decide_eq_false w] at gg
            rw [gg, kF] at o2
            rw [gg, kF, kF]
            have e1 : (1103515245 * a.2) + 12345 = lotY sd (i + 1) := by
              rw [e, show min i n.toNatClampNeg = i by omega]
              rfl
            rw [e1]
            refine ⟨o2, ?_⟩
            show lotY sd (i + 1) = _
            rw [show min (i + 1) n.toNatClampNeg = i + 1 by omega]
      obtain ⟨m, -⟩ := B 24 (Nat.le_refl _)
      generalize itr (B_yearsOf_6 n) 0 24 (F_asTold c, sd) = b at *
      have ov : ovJ (tJ c (c 11) (c 12) (mixN (ratY sd n) (c 13) 24) (c 14) 255) := ovT (by rw [fo 10 0 rfl]; exact h8) (fun k hk => by rw [fo 10 0 rfl] at hk; rw [cell 12 (by decide)]; exact hpw k hk) (fun t ht => by
        have e : mixN (ratY sd n) (c 13) 24 t = ratY sd n t := if_pos ht
        rw [e]
        exact rat03 sd n t)
      obtain ⟨u1, -⟩ := runT g.2.2.1 (by rw [fo 10 0 rfl]; exact h8) m bit0_ ov
      rw [eJ, cell 11 (by decide), cell 12 (by decide), cell 13 (by decide), cell 14 (by decide)] at u1
      dsimp only
      rw [(r1 23 (by decide)).1, (r1 23 (by decide)).2.1, u1.1, u1.2.1]
