/-! the calls on the told trip: answers alike, all that is kept stays alike -/
theorem gr01 (J : TI) (t : Nat) (x : TS) : gr' J t x = 0 ∨ gr' J t x = 1 := by
  unfold gr'
  cases m_cmp .ne (sth x) (-1)
  · cases grd J t x
    · exact Or.inl rfl
    · exact Or.inr rfl
  · exact Or.inl rfl
theorem gfi_stay {J : TI} {i : Nat} (h : gfi J i ≠ -1) : ∀ n, gfi J (i + n) = gfi J i
  | 0 => rfl
  | n + 1 => by
    rw [show i + (n + 1) = (i + n) + 1 from rfl, gfi_s, gfi_stay h n, m_ne_iff.mpr h]; (try dsimp only [nT, nF, cT, cF])
    cases m_cmp .eq (gr' J (i + n) (trip J (i + n))) 0 <;> rfl
theorem fstG {f : NI} {J : TI} (h : ∀ t, t < 24 → f t = gr' J t (trip J t)) {B : Nat → Unit → Unit ⊕ Int32} (hB : ∀ t u, B t u = bif m_cmp .ne (f t) 1 then .inl () else .inr (Int32.ofNat t)) : ∀ n lo, lo + n = 24 → gfi J lo = -1 → Sum.elim (fun _ : Unit => (-1 : Int32)) (fun x : Nat × Int32 => x.2) (itx B lo n ()) = gfi J 24
  | 0, lo, hl, hg => by
    have e : lo = 24 := by omega
    rw [e] at hg
    rw [hg]
    rfl
  | n + 1, lo, hl, hg => by
    have hs := gfi_s J lo
    rw [hg] at hs
    rcases gr01 J lo (trip J lo) with e | e
    · rw [itx_l B (x := ()) (by rw [hB, h lo (by omega), e]; rfl)]
      exact fstG h hB n (lo + 1) (by omega) (by rw [hs, e]; rfl)
    · rw [itx_r B (b := Int32.ofNat lo) (by rw [hB, h lo (by omega), e]; rfl)]
      rw [e] at hs
      have hs : gfi J (lo + 1) = Int32.ofNat lo := hs
      have st := gfi_stay (J := J) (i := lo + 1) (by rw [hs]; exact ofn_ne (by omega)) n
      rw [show lo + 1 + n = 24 by omega, hs] at st
      rw [st]
      rfl
theorem plB (J : TI) : ∀ t, 0 ≤ (spl' (trip J t)).toInt ∧ (spl' (trip J t)).toInt ≤ 20
  | 0 => (show 0 ≤ (10 : Int32).toInt ∧ (10 : Int32).toInt ≤ 20 from by decide)
  | t + 1 => by
    have ih := plB J t
    show 0 ≤ (bif m_cmp .ne (sth (trip J t)) (-1) then spl' (trip J t) else pl' J t (trip J t)).toInt ∧ (bif m_cmp .ne (sth (trip J t)) (-1) then spl' (trip J t) else pl' J t (trip J t)).toInt ≤ 20
    cases m_cmp .ne (sth (trip J t)) (-1) with
    | true => exact ih
    | false =>
      (try dsimp only [nT, nF, cT, cF])
      unfold pl'
      have e0 : (0 : Int32).toInt = 0 := by decide
      have e20 : (20 : Int32).toInt = 20 := by decide
      cases q1 : m_cmp .le (beh J t (trip J t)) 0 with
      | true => exact (show 0 ≤ (0 : Int32).toInt ∧ (0 : Int32).toInt ≤ 20 from by decide)
      | false =>
        cases q2 : m_cmp .ge (beh J t (trip J t)) 20 with
        | true => exact (show 0 ≤ (20 : Int32).toInt ∧ (20 : Int32).toInt ≤ 20 from by decide)
        | false =>
          (try dsimp only [nT, nF, cT, cF])
          have q1 := m_ff mle_iff q1
          have q2 := m_ff m_ge_iff q2
          omega
theorem offA {p : Int32} (h : 0 ≤ p.toInt ∧ p.toInt ≤ 20) : (if 0 ≤ (p - 10) then (p - 10) else 0 - (p - 10)) = offP p := by
  have e0 : (0 : Int32).toInt = 0 := by decide
  have e10 : (10 : Int32).toInt = 10 := by decide
  have d : (p - 10).toInt = p.toInt - 10 := (i32_sub (by omega) (by omega)).trans (by omega)
  have d2 : (10 - p).toInt = 10 - p.toInt := (i32_sub (by omega) (by omega)).trans (by omega)
  have d3 : (0 - (p - 10)).toInt = 10 - p.toInt := (i32_sub (by omega) (by omega)).trans (by omega)
  unfold offP
  by_cases q : 10 ≤ p.toInt
  · rw [if_pos (Int32.le_iff_toInt_le.mpr (by omega)), m_ge_iff.mpr (by omega)]; (try dsimp only [nT, nF, cT, cF])
  · rw [if_neg (fun w => by have := Int32.le_iff_toInt_le.mp w; omega)]
    cases w : m_cmp .ge p 10 with
    | true => have := m_ge_iff.mp w; omega
    | false =>
      (try dsimp only [nT, nF, cT, cF])
      exact Int32.toInt_inj.mp (by omega)
theorem maxB (a o : Int32) : (if a < o then o else a) = (bif m_cmp .le o a then a else o) := by
  by_cases q : a < o
  · rw [if_pos q]
    cases w : m_cmp .le o a with
    | false => rfl
    | true =>
      have := mle_iff.mp w
      have := Int32.lt_iff_toInt_lt.mp q
      omega
  · rw [if_neg q, mle_iff.mpr (by have w : ¬ a.toInt < o.toInt := fun w => q (Int32.lt_iff_toInt_lt.mpr w); omega)]; (try dsimp only [nT, nF, cT, cF])
theorem or0 (x : Int32) : x ||| 0 = x := by
  apply Int32.toBitVec_inj.mp
  show x.toBitVec ||| 0#32 = x.toBitVec
  exact BitVec.or_zero
section QRY
variable {z : SG} {J : TI}
theorem fa_a (h : OuC_a J 24 z) : F_firstAground_a z = gfi J 24 := fstG (f := z 20) (B := B_firstAground_a_2 z) (fun t ht => (h t ht).2.2.2.2.1) (fun _ _ => rfl) 24 0 rfl rfl
theorem ma_a (h : OuC_a J 24 z) : F_minutesAground_a z = gma J 24 := itr_cong (fun i x hi => by
  show x + z 20 i = x + gr' J i (trip J i)
  rw [(h i hi).2.2.2.2.1]) 24 (Nat.le_refl _)
theorem ls_a (h : OuC_a J 24 z) : F_lastStray_a z = offP (spl' (trip J 24)) := by
  have e : z 17 23 = spl' (trip J 24) := (h 23 (by omega)).2.1
  unfold F_lastStray_a
  rw [e]
  exact offA (plB J 24)
theorem fs_a (h : OuC_a J 24 z) : F_farthestStray_a z = far J 24 := itr_cong (fun i x hi => by
  show (if x < (if 0 ≤ ((z 17 i) - 10) then ((z 17 i) - 10) else 0 - ((z 17 i) - 10)) then (if 0 ≤ ((z 17 i) - 10) then ((z 17 i) - 10) else 0 - ((z 17 i) - 10)) else x) = bif m_cmp .le (offP (spl' (trip J (i + 1)))) x then x else offP (spl' (trip J (i + 1)))
  rw [(h i hi).2.1, offA (plB J (i + 1)), maxB]) 24 (Nat.le_refl _)
end QRY
theorem rdK {s : SG} (h : KG s) : KG (F_reads s) ∧ inC_a (F_reads s) 255 = inC_a s 255 ∧ F_reads s 10 0 = s 10 0 := by
  have f := fr_reads s
  exact ⟨h.ag (f.ag DG rfl), inC_ag (f.ag DJ rfl) 255, f 10 0 rfl⟩
theorem i2n {m : Nat} (h : m < 24) : (2 * Int32.ofNat m).toNatClampNeg = 2 * m := by
  rw [show 2 * Int32.ofNat m = Int32.ofNat (2 * m) from ofn_mul rfl rfl]
  exact ofn_c (by omega)
theorem i2n1 {m : Nat} (h : m < 24) : ((2 * Int32.ofNat m) + 1).toNatClampNeg = 2 * m + 1 := by
  rw [show (2 * Int32.ofNat m) + 1 = Int32.ofNat (2 * m + 1) from ofn_add (ofn_mul rfl rfl) rfl]
  exact ofn_c (by omega)
theorem bl_5 {v : Int32} : bl v 5 = true ↔ v = 0 ∨ v = 1 ∨ v = 2 ∨ v = 3 ∨ v = 4 := by
  constructor
  · intro h
    obtain ⟨h1, h2⟩ := bl_iff.mp h
    have e : (5 : Int32).toInt = 5 := by decide
    have q : v.toInt = (0 : Int32).toInt ∨ v.toInt = (1 : Int32).toInt ∨ v.toInt = (2 : Int32).toInt ∨ v.toInt = (3 : Int32).toInt ∨ v.toInt = (4 : Int32).toInt := by
      have e0 : (0 : Int32).toInt = 0 := by decide
      have e1 : (1 : Int32).toInt = 1 := by decide
      have e2 : (2 : Int32).toInt = 2 := by decide
      have e3 : (3 : Int32).toInt = 3 := by decide
      have e4 : (4 : Int32).toInt = 4 := by decide
      omega
    rcases q with q | q | q | q | q
    · exact Or.inl (Int32.toInt_inj.mp q)
    · exact Or.inr (Or.inl (Int32.toInt_inj.mp q))
    · exact Or.inr (Or.inr (Or.inl (Int32.toInt_inj.mp q)))
    · exact Or.inr (Or.inr (Or.inr (Or.inl (Int32.toInt_inj.mp q))))
    · exact Or.inr (Or.inr (Or.inr (Or.inr (Int32.toInt_inj.mp q))))
  · intro h
    rcases h with rfl | rfl | rfl | rfl | rfl <;> rfl
/-- a call: alike answers, all kept alike -/
def QK (c : Int32 × SG) (m : SG → Int32 × SG) : Prop := KF (m c.2).2 ∧ c.1 = (m c.2).1
theorem q_at {s : SG} (h : KF s) (mi wh : Int32) : QK (F_cat s mi wh) (fun y => F_at y mi wh) := by
  suffices k : KF (F_cat s mi wh).2 ∧ (F_cat s mi wh).1 = (F_at (F_cat s mi wh).2 mi wh).1 from ⟨k.1.ag ((fr_at _ mi wh).ag DF rfl), k.2⟩
  have eC : F_cat s mi wh = bif m_cmp .ne (F_isBelow s mi 24) 0 then (bif m_cmp .eq wh 0 then ((F_toldTrip s 16 mi.toNatClampNeg, F_toldTrip s)) else (bif m_cmp .eq wh 1 then ((F_toldTrip s 17 mi.toNatClampNeg, F_toldTrip s)) else (bif m_cmp .eq wh 2 then ((F_toldTrip s 18 mi.toNatClampNeg, F_toldTrip s)) else (bif m_cmp .eq wh 3 then ((F_toldTrip s 19 mi.toNatClampNeg, F_toldTrip s)) else (bif m_cmp .eq wh 4 then ((F_toldTrip s 20 mi.toNatClampNeg, F_toldTrip s)) else (((-2), F_toldTrip s))))))) else (((-2), s)) := rfl
  have eM : ∀ y, F_at y mi wh = bif m_cmp .eq (F_isMinute y mi) 0 then ((-2 : Int32), y) else (bif m_cmp .eq (F_in y wh 0 4) 0 then ((-2 : Int32), y) else (F_atOf y mi wh)) := fun _ => rfl
  have eA : ∀ y, F_atOf y mi wh = bif m_cmp .eq wh 0 then ((F_runsTold y 139 mi.toNatClampNeg, F_runsTold y)) else (bif m_cmp .eq wh 1 then ((F_runsTold y 140 mi.toNatClampNeg, F_runsTold y)) else (bif m_cmp .eq wh 2 then ((F_runsTold y 141 ((2 * mi).toNatClampNeg), F_runsTold y)) else (bif m_cmp .eq wh 3 then ((F_runsTold y 141 (((2 * mi) + 1).toNatClampNeg), F_runsTold y)) else ((F_runsTold y 142 mi.toNatClampNeg, F_runsTold y))))) := fun _ => rfl
  rw [eC, bl_n]
  cases q : bl mi 24 with
  | false =>
    (try dsimp only [nT, nF, cT, cF])
    show KF s ∧ -2 = (F_at s mi wh).1
    rw [eM, isM_e, q]; (try dsimp only [nT, nF, cT, cF])
    exact ⟨h, rfl⟩
  | true =>
    (try dsimp only [nT, nF, cT, cF])
    obtain ⟨t1, t2, t3⟩ := tt h
    generalize F_toldTrip s = z at *
    obtain ⟨em, lm⟩ := bl_ofn q
    have lm : mi.toNatClampNeg < 24 := lm
    have R := (rt t1.1).1
    obtain ⟨-, -, -, -, -, -, -, o⟩ := R
    obtain ⟨o1, o2, o3, o4, o5, -⟩ := o _ lm
    obtain ⟨c1, c2, c3, c4, c5, -⟩ := t2.1 _ lm
    have j2 : (2 * mi).toNatClampNeg = 2 * mi.toNatClampNeg := by
      rw [em, i2n (by omega), ← em]
    have j3 : ((2 * mi) + 1).toNatClampNeg = 2 * mi.toNatClampNeg + 1 := by
      rw [em, i2n1 (by omega), ← em]
    cases w : bl wh 5 with
    | false =>
      have n : ∀ k, k < 5 → m_cmp .eq wh (Int32.ofNat k) = false := fun k hk => by
        cases p : m_cmp .eq wh (Int32.ofNat k) with
        | false => rfl
        | true =>
          have p := m_eq_iff.mp p
          have b : bl wh 5 = true := by
            rw [p]
            exact (show ∀ k, k < 5 → bl (Int32.ofNat k) 5 = true from by decide) k hk
          rw [w] at b
          cases b
      rw [show m_cmp .eq wh 0 = false from n 0 (by omega), show m_cmp .eq wh 1 = false from n 1 (by omega), show m_cmp .eq wh 2 = false from n 2 (by omega), show m_cmp .eq wh 3 = false from n 3 (by omega), show m_cmp .eq wh 4 = false from n 4 (by omega)]; (try dsimp only [nT, nF, cT, cF])
      show KF z ∧ -2 = (F_at z mi wh).1
      rw [eM, isM_e, q, in_e z wh 4 5 rfl, w]; (try dsimp only [nT, nF, cT, cF])
      exact ⟨t1, rfl⟩
    | true =>
      have eM2 : F_at z mi wh = F_atOf z mi wh := by rw [eM, isM_e, q, in_e z wh 4 5 rfl, w, nT, cF, cF]
      rcases bl_5.mp w with e | e | e | e | e
      · rw [show m_cmp .eq wh 0 = true by rw [e]; rfl]; (try dsimp only [nT, nF, cT, cF])
        show KF z ∧ z 16 _ = (F_at z mi wh).1
        rw [eM2, eA, show m_cmp .eq wh 0 = true by rw [e]; rfl]; (try dsimp only [nT, nF, cT, cF])
        exact ⟨t1, c1.trans o1.symm⟩
      · rw [show m_cmp .eq wh 0 = false by rw [e]; rfl]; (try dsimp only [nT, nF, cT, cF]); rw [show m_cmp .eq wh 1 = true by rw [e]; rfl]; (try dsimp only [nT, nF, cT, cF])
        show KF z ∧ z 17 _ = (F_at z mi wh).1
        rw [eM2, eA, show m_cmp .eq wh 0 = false by rw [e]; rfl]; (try dsimp only [nT, nF, cT, cF]); rw [show m_cmp .eq wh 1 = true by rw [e]; rfl]; (try dsimp only [nT, nF, cT, cF])
        exact ⟨t1, c2.trans o2.symm⟩
      · rw [show m_cmp .eq wh 0 = false by rw [e]; rfl]; (try dsimp only [nT, nF, cT, cF]); rw [show m_cmp .eq wh 1 = false by rw [e]; rfl]; (try dsimp only [nT, nF, cT, cF]); rw [show m_cmp .eq wh 2 = true by rw [e]; rfl]; (try dsimp only [nT, nF, cT, cF])
        show KF z ∧ z 18 _ = (F_at z mi wh).1
        rw [eM2, eA, show m_cmp .eq wh 0 = false by rw [e]; rfl]; (try dsimp only [nT, nF, cT, cF]); rw [show m_cmp .eq wh 1 = false by rw [e]; rfl]; (try dsimp only [nT, nF, cT, cF]); rw [show m_cmp .eq wh 2 = true by rw [e]; rfl]; (try dsimp only [nT, nF, cT, cF]); rw [j2]
        exact ⟨t1, c3.trans o3.symm⟩
      · rw [show m_cmp .eq wh 0 = false by rw [e]; rfl]; (try dsimp only [nT, nF, cT, cF]); rw [show m_cmp .eq wh 1 = false by rw [e]; rfl]; (try dsimp only [nT, nF, cT, cF]); rw [show m_cmp .eq wh 2 = false by rw [e]; rfl]; (try dsimp only [nT, nF, cT, cF]); rw [show m_cmp .eq wh 3 = true by rw [e]; rfl]; (try dsimp only [nT, nF, cT, cF])
        show KF z ∧ z 19 _ = (F_at z mi wh).1
        rw [eM2, eA, show m_cmp .eq wh 0 = false by rw [e]; rfl]; (try dsimp only [nT, nF, cT, cF]); rw [show m_cmp .eq wh 1 = false by rw [e]; rfl]; (try dsimp only [nT, nF, cT, cF]); rw [show m_cmp .eq wh 2 = false by rw [e]; rfl]; (try dsimp only [nT, nF, cT, cF]); rw [show m_cmp .eq wh 3 = true by rw [e]; rfl]; (try dsimp only [nT, nF, cT, cF]); rw [j3]
        exact ⟨t1, c4.trans o4.symm⟩
      · rw [show m_cmp .eq wh 0 = false by rw [e]; rfl]; (try dsimp only [nT, nF, cT, cF]); rw [show m_cmp .eq wh 1 = false by rw [e]; rfl]; (try dsimp only [nT, nF, cT, cF]); rw [show m_cmp .eq wh 2 = false by rw [e]; rfl]; (try dsimp only [nT, nF, cT, cF]); rw [show m_cmp .eq wh 3 = false by rw [e]; rfl]; (try dsimp only [nT, nF, cT, cF]); rw [show m_cmp .eq wh 4 = true by rw [e]; rfl]; (try dsimp only [nT, nF, cT, cF])
        show KF z ∧ z 20 _ = (F_at z mi wh).1
        rw [eM2, eA, show m_cmp .eq wh 0 = false by rw [e]; rfl]; (try dsimp only [nT, nF, cT, cF]); rw [show m_cmp .eq wh 1 = false by rw [e]; rfl]; (try dsimp only [nT, nF, cT, cF]); rw [show m_cmp .eq wh 2 = false by rw [e]; rfl]; (try dsimp only [nT, nF, cT, cF]); rw [show m_cmp .eq wh 3 = false by rw [e]; rfl]; (try dsimp only [nT, nF, cT, cF])
        exact ⟨t1, c5.trans o5.symm⟩
theorem q_there {s : SG} (h : KF s) : QK (F_cthere s) (fun y => F_there y) := by
  suffices k : KF (F_cthere s).2 ∧ (F_cthere s).1 = (F_there (F_cthere s).2).1 from ⟨k.1.ag ((fr_there _).ag DF rfl), k.2⟩
  have eC : F_cthere s = (F_toldTrip s 15 8, F_toldTrip s) := rfl
  have eM : ∀ y, F_there y = (F_runsTold y 123 21, F_runsTold y) := fun _ => rfl
  obtain ⟨t1, t2, t3⟩ := tt h
  rw [eC]
  generalize F_toldTrip s = z at *
  refine ⟨t1, ?_⟩
  show z 15 8 = (F_there z).1
  rw [eM]
  (try dsimp only)
  exact t2.2.1.trans (rt t1.1).1.2.2.1.symm
theorem q_grounded {s : SG} (h : KF s) (w : Int32) : QK (F_cgrounded s w) (fun y => F_grounded y w) := by
  suffices k : KF (F_cgrounded s w).2 ∧ (F_cgrounded s w).1 = (F_grounded (F_cgrounded s w).2 w).1 from ⟨k.1.ag ((fr_grounded _ w).ag DF rfl), k.2⟩
  have eC : F_cgrounded s w = bif m_cmp .ne (F_isBelow s w 2) 0 then (bif m_cmp .ne w 0 then F_firstAground_a (F_toldTrip s) else F_minutesAground_a (F_toldTrip s), F_toldTrip s) else ((-2), s) := rfl
  have eM : ∀ y, F_grounded y w = bif m_cmp .eq (F_isTwo y w) 0 then ((-2 : Int32), y) else (bif m_cmp .ne w 0 then F_runsTold y 123 23 else F_runsTold y 123 22, F_runsTold y) := fun _ => rfl
  rw [eC, bl_n]
  cases q : bl w 2 with
  | false =>
    (try dsimp only [nT, nF, cT, cF])
    show KF s ∧ -2 = (F_grounded s w).1
    rw [eM, is2_e, q]; (try dsimp only [nT, nF, cT, cF])
    exact ⟨h, rfl⟩
  | true =>
    (try dsimp only [nT, nF, cT, cF])
    obtain ⟨t1, t2, t3⟩ := tt h
    generalize F_toldTrip s = z at *
    refine ⟨t1, ?_⟩
    show (bif m_cmp .ne w 0 then F_firstAground_a z else F_minutesAground_a z) = (F_grounded z w).1
    rw [eM, is2_e, q]; (try dsimp only [nT, nF, cT, cF]); rw [fa_a t2.1, ma_a t2.1]
    (try dsimp only)
    rw [(rt t1.1).1.2.2.2.1, (rt t1.1).1.2.2.2.2.1]
theorem q_stray {s : SG} (h : KF s) (w : Int32) : QK (F_cstray s w) (fun y => F_stray y w) := by
  suffices k : KF (F_cstray s w).2 ∧ (F_cstray s w).1 = (F_stray (F_cstray s w).2 w).1 from ⟨k.1.ag ((fr_stray _ w).ag DF rfl), k.2⟩
  have eC : F_cstray s w = bif m_cmp .ne (F_isBelow s w 2) 0 then (bif m_cmp .ne w 0 then F_farthestStray_a (F_toldTrip s) else F_lastStray_a (F_toldTrip s), F_toldTrip s) else ((-2), s) := rfl
  have eM : ∀ y, F_stray y w = bif m_cmp .eq (F_isTwo y w) 0 then ((-2 : Int32), y) else (bif m_cmp .ne w 0 then F_runsTold y 123 24 else F_strayNow (F_runsTold y), F_runsTold y) := fun _ => rfl
  have eN : ∀ y : SG, F_strayNow y = offP (y 123 20) := fun _ => rfl
  rw [eC, bl_n]
  cases q : bl w 2 with
  | false =>
    (try dsimp only [nT, nF, cT, cF])
    show KF s ∧ -2 = (F_stray s w).1
    rw [eM, is2_e, q]; (try dsimp only [nT, nF, cT, cF])
    exact ⟨h, rfl⟩
  | true =>
    (try dsimp only [nT, nF, cT, cF])
    obtain ⟨t1, t2, t3⟩ := tt h
    generalize F_toldTrip s = z at *
    refine ⟨t1, ?_⟩
    show (bif m_cmp .ne w 0 then F_farthestStray_a z else F_lastStray_a z) = (F_stray z w).1
    rw [eM, is2_e, q]; (try dsimp only [nT, nF, cT, cF]); rw [fs_a t2.1, ls_a t2.1]
    (try dsimp only)
    rw [eN, (rt t1.1).1.2.2.2.2.2.1, (rt t1.1).1.2.1]
theorem q_idle {s : SG} (h : KF s) : QK (F_cidle s) (fun y => F_idle y) := by
  suffices k : KF (F_cidle s).2 ∧ (F_cidle s).1 = (F_idle (F_cidle s).2).1 from ⟨k.1.ag ((fr_idle _).ag DF rfl), k.2⟩
  have eC : F_cidle s = (itr (B_cidle_7 (F_toldTrip s)) 0 ((F_toldTrip s 10 0).toNatClampNeg) (0 : Int32), F_toldTrip s) := rfl
  have eM : ∀ y, F_idle y = (itr (B_idleOf_6 (F_runsTold y)) 0 ((F_runsTold y 123 2).toNatClampNeg) (0 : Int32), F_runsTold y) := fun _ => rfl
  obtain ⟨t1, t2, t3⟩ := tt h
  rw [eC]
  generalize F_toldTrip s = z at *
  refine ⟨t1, ?_⟩
  show itr (B_cidle_7 z) 0 ((z 10 0).toNatClampNeg) (0 : Int32) = (F_idle z).1
  rw [eM]
  (try dsimp only)
  obtain ⟨R, R2⟩ := rt t1.1
  rw [R2]
  refine itr_cong (fun i x hi => ?_) _ (Nat.le_refl _)
  have a1 := (t2.2.2 i hi).1
  have a2 := (R.2.2.2.2.2.2.1 i hi).1
  show (bif m_cmp .ne (z 46 i) 0 then x else (x ||| (1 <<< ((Int32.ofNat i) &&& 31)))) = x ||| (bif m_cmp .ne (F_runsTold z 137 i) 0 then (0 : Int32) else 1 <<< ((Int32.ofNat i) &&& 31))
  rw [a1, a2]
  cases m_cmp .ne (smn (trip (inC_a z 255) 24) i) 0
  · rfl
  · exact (or0 x).symm
theorem q_pulls {s : SG} (h : KF s) (mi k : Int32) : QK (F_cpulls s mi k) (fun y => F_pulls y mi k) := by
  suffices w : KF (F_cpulls s mi k).2 ∧ (F_cpulls s mi k).1 = (F_pulls (F_cpulls s mi k).2 mi k).1 from ⟨w.1.ag ((fr_pulls _ mi k).ag DF rfl), w.2⟩
  have eC : F_cpulls s mi k = bif m_cmp .eq (F_isBelow s mi 24) 0 then (((-2), s)) else (bif m_cmp .ne (F_cisRower s k) 0 then (F_toldTrip s (22 + mi.toNatClampNeg) k.toNatClampNeg, F_toldTrip s) else (((-2), s))) := rfl
  have eM : ∀ y, F_pulls y mi k = bif m_cmp .eq (F_isMinute y mi) 0 then ((-2 : Int32), y) else (bif m_cmp .eq (F_isRower y k).1 0 then ((-2 : Int32), (F_isRower y k).2) else (F_pullsOf (F_isRower y k).2 mi k)) := fun _ => rfl
  rw [eC, bl_e, cisR_n]
  cases q : bl mi 24 with
  | false =>
    (try dsimp only [nT, nF, cT, cF])
    show KF s ∧ -2 = (F_pulls s mi k).1
    rw [eM, isM_e, q]; (try dsimp only [nT, nF, cT, cF])
    exact ⟨h, rfl⟩
  | true =>
    (try dsimp only [nT, nF, cT, cF])
    cases q2 : bl k (s 10 0) with
    | false =>
      (try dsimp only [nT, nF, cT, cF])
      show KF s ∧ -2 = (F_pulls s mi k).1
      rw [eM, isM_e, q]; (try dsimp only [nT, nF, cT, cF]); rw [(isRw h.1.1.1 h.1.2.1 k).1, q2]; (try dsimp only [nT, nF, cT, cF])
      exact ⟨h, rfl⟩
    | true =>
      (try dsimp only [nT, nF, cT, cF])
      obtain ⟨t1, t2, t3⟩ := tt h
      have e10 : F_toldTrip s 10 0 = s 10 0 := t3 10 0 rfl
      rw [← e10] at q2
      generalize F_toldTrip s = z at *
      refine ⟨t1, ?_⟩
      show z (22 + mi.toNatClampNeg) k.toNatClampNeg = (F_pulls z mi k).1
      obtain ⟨i1, i2⟩ := isRw t1.1.1.1 t1.1.2.1 k
      rw [eM, isM_e, q]; (try dsimp only [nT, nF, cT, cF]); rw [i1, q2]; (try dsimp only [nT, nF, cT, cF]); rw [i2]
      obtain ⟨em, lm⟩ := bl_ofn q
      have lm : mi.toNatClampNeg < 24 := lm
      obtain ⟨ek, lk⟩ := bl_ofn q2
      have h8 := row8 t1.1.1.1 t1.1.2.1.1
      have lk : k.toNatClampNeg < (z 10 0).toNatClampNeg := lk
      obtain ⟨g, gi, -⟩ := rdK t1.1
      have R := (rt g).1
      rw [gi] at R
      have eP : F_pullsOf (F_reads z) mi k = (F_runsTold (F_reads z) 143 (((8 * mi) + k).toNatClampNeg), F_runsTold (F_reads z)) := rfl
      rw [eP]
      (try dsimp only)
      have j8 : ((8 * mi) + k).toNatClampNeg = 8 * mi.toNatClampNeg + k.toNatClampNeg := by
        rw [em, ek, idx8 lm (by omega), ← em, ← ek]
      rw [j8, (t2.1 _ lm).2.2.2.2.2 _ lk]
      exact ((R.2.2.2.2.2.2.2 _ lm).2.2.2.2.2 _ lk).symm
theorem q_done {s : SG} (h : KF s) (k w : Int32) : QK (F_cdone s k w) (fun y => F_done y k w) := by
  suffices x : KF (F_cdone s k w).2 ∧ (F_cdone s k w).1 = (F_done (F_cdone s k w).2 k w).1 from ⟨x.1.ag ((fr_done _ k w).ag DF rfl), x.2⟩
  have eC : F_cdone s k w = bif m_cmp .eq (F_cisRower s k) 0 then (((-2), s)) else (bif m_cmp .ne (F_isBelow s w 2) 0 then (bif m_cmp .ne w 0 then F_toldTrip s 47 k.toNatClampNeg else F_toldTrip s 46 k.toNatClampNeg, F_toldTrip s) else (((-2), s))) := rfl
  have eM : ∀ y, F_done y k w = bif m_cmp .eq (F_isRower y k).1 0 then ((-2 : Int32), (F_isRower y k).2) else (bif m_cmp .eq (F_isTwo (F_isRower y k).2 w) 0 then ((-2 : Int32), (F_isRower y k).2) else (F_doneOf (F_isRower y k).2 k w)) := fun _ => rfl
  rw [eC, bl_n, cisR_e]
  cases q : bl k (s 10 0) with
  | false =>
    (try dsimp only [nT, nF, cT, cF])
    show KF s ∧ -2 = (F_done s k w).1
    rw [eM, (isRw h.1.1.1 h.1.2.1 k).1, q]; (try dsimp only [nT, nF, cT, cF])
    exact ⟨h, rfl⟩
  | true =>
    (try dsimp only [nT, nF, cT, cF])
    cases q2 : bl w 2 with
    | false =>
      (try dsimp only [nT, nF, cT, cF])
      show KF s ∧ -2 = (F_done s k w).1
      rw [eM, (isRw h.1.1.1 h.1.2.1 k).1, q]; (try dsimp only [nT, nF, cT, cF]); rw [is2_e, q2]; (try dsimp only [nT, nF, cT, cF])
      exact ⟨h, rfl⟩
    | true =>
      (try dsimp only [nT, nF, cT, cF])
      obtain ⟨t1, t2, t3⟩ := tt h
      have e10 : F_toldTrip s 10 0 = s 10 0 := t3 10 0 rfl
      rw [← e10] at q
      generalize F_toldTrip s = z at *
      refine ⟨t1, ?_⟩
      show (bif m_cmp .ne w 0 then z 47 k.toNatClampNeg else z 46 k.toNatClampNeg) = (F_done z k w).1
      obtain ⟨i1, i2⟩ := isRw t1.1.1.1 t1.1.2.1 k
      rw [eM, i1, q]; (try dsimp only [nT, nF, cT, cF]); rw [is2_e, q2]; (try dsimp only [nT, nF, cT, cF]); rw [i2]
      have lk : k.toNatClampNeg < (z 10 0).toNatClampNeg := (bl_ofn q).2
      obtain ⟨g, gi, -⟩ := rdK t1.1
      have R := (rt g).1
      rw [gi] at R
      have eP : F_doneOf (F_reads z) k w = (bif m_cmp .ne w 0 then F_runsTold (F_reads z) 138 k.toNatClampNeg else F_runsTold (F_reads z) 137 k.toNatClampNeg, F_runsTold (F_reads z)) := rfl
      rw [eP]
      (try dsimp only)
      rw [(t2.2.2 _ lk).1, (t2.2.2 _ lk).2]
      have r7 := R.2.2.2.2.2.2.1 _ lk
      rw [r7.1, r7.2]
/-- best: what is kept stays alike -/
theorem k_best {s : SG} (h : KF s) : KF (F_best (F_cbest s).2).2 := by
  have eC : (F_cbest s).2 = F_toldTrip s := rfl
  rw [eC]
  exact (tt h).1.ag ((fr_best _).ag DF rfl)
