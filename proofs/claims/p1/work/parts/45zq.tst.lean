/-! tests of the model, told by bl -/
theorem cT {α : Type} (a b : α) : (bif true then a else b) = a := rfl
theorem cF {α : Type} (a b : α) : (bif false then a else b) = b := rfl
theorem nT : (!true) = false := rfl
theorem nF : (!false) = true := rfl
section TST
variable (s : SG) (v : Int32)
theorem isM_e : m_cmp .eq (F_isMinute s v) 0 = !(bl v 24) := in_e s v 23 24 rfl
theorem isM_n : m_cmp .ne (F_isMinute s v) 0 = bl v 24 := in_n s v 23 24 rfl
theorem is2_e : m_cmp .eq (F_isTwo s v) 0 = !(bl v 2) := in_e s v 1 2 rfl
theorem is2_n : m_cmp .ne (F_isTwo s v) 0 = bl v 2 := in_n s v 1 2 rfl
theorem is3_e : m_cmp .eq (F_isThree s v) 0 = !(bl v 3) := in_e s v 2 3 rfl
theorem is3_n : m_cmp .ne (F_isThree s v) 0 = bl v 3 := in_n s v 2 3 rfl
theorem is8_e : m_cmp .eq (F_isEight s v) 0 = !(bl v 8) := in_e s v 7 8 rfl
theorem is8_n : m_cmp .ne (F_isEight s v) 0 = bl v 8 := in_n s v 7 8 rfl
theorem isX_e : m_cmp .eq (F_isText s v) 0 = !(bl v 3) := in_e s v 2 3 rfl
theorem isX_n : m_cmp .ne (F_isText s v) 0 = bl v 3 := in_n s v 2 3 rfl
theorem isS_e : m_cmp .eq (F_isSheet s v) 0 = !(bl v 4) := in_e s v 3 4 rfl
theorem isS_n : m_cmp .ne (F_isSheet s v) 0 = bl v 4 := in_n s v 3 4 rfl
end TST
/-- who rows -/
theorem isRw {s : SG} (t : KT s) (c : KC s) (k : Int32) : m_cmp .eq (F_isRower s k).1 0 = !(bl k (s 10 0)) ∧ (F_isRower s k).2 = F_reads s := by
  have d := (kd t c).1
  have e : F_isRower s k = (F_in (F_reads s) k 0 (F_reads s 123 2 - 1), F_reads s) := rfl
  rw [e]
  refine ⟨?_, rfl⟩
  show m_cmp .eq (F_in (F_reads s) k 0 (F_reads s 123 2 - 1)) 0 = _
  rw [← d]
  have r0 : 0 ≤ (s 10 0).toInt := by
    obtain ⟨⟨x, x1, x2⟩, -⟩ := c.1
    rw [x2]
    unfold rowN
    cases m_cmp .ne x (-1) with
    | true => exact (show 0 ≤ (0 : Int32).toInt from by decide)
    | false =>
      show 0 ≤ ((s 109 1 + 1) / 3).toInt
      obtain ⟨L, l1, l2⟩ := lenO t.1.1 t.1.2.1
      rw [t.2.1, l2]
      exact (show ∀ L, L < 24 → 0 ≤ ((Int32.ofNat L + 1) / 3).toInt from by decide) L (by omega)
  have r1 := i32_le (s 10 0)
  have e1 : (1 : Int32).toInt = 1 := by decide
  have e2 : (s 10 0 - 1).toInt = (s 10 0).toInt - 1 := (i32_sub (by omega) (by omega)).trans (by omega)
  exact in_e _ k _ _ (by omega)
theorem cisR_e (s : SG) (k : Int32) : m_cmp .eq (F_cisRower s k) 0 = !(bl k (s 10 0)) := bl_e s k _
theorem cisR_n (s : SG) (k : Int32) : m_cmp .ne (F_cisRower s k) 0 = bl k (s 10 0) := bl_n s k _
theorem bl_2 {v : Int32} : bl v 2 = true ↔ v = 0 ∨ v = 1 := by
  constructor
  · intro h
    obtain ⟨h1, h2⟩ := bl_iff.mp h
    have e : (2 : Int32).toInt = 2 := by decide
    have q : v.toInt = (0 : Int32).toInt ∨ v.toInt = (1 : Int32).toInt := by
      have e0 : (0 : Int32).toInt = 0 := by decide
      have e1 : (1 : Int32).toInt = 1 := by decide
      omega
    rcases q with q | q
    · exact Or.inl (Int32.toInt_inj.mp q)
    · exact Or.inr (Int32.toInt_inj.mp q)
  · intro h
    rcases h with rfl | rfl <;> rfl
/-! promises 5, 6, 7: fault, rower, call -/
def DR : LW := [(126, 129, none), (123, 123, some 2), (123, 123, some 5), (123, 123, some 7)]
theorem q_rower {s : SG} (t : KT s) (c : KC s) (k w : Int32) : F_crower s k w = (F_rower s k w).1 := by
  obtain ⟨r1, r2⟩ := isRw t c k
  obtain ⟨-, d2, -⟩ := kd t c
  have eM : F_rower s k w = (bif m_cmp .eq (F_isRower s k).1 0 then (-2 : Int32) else (bif m_cmp .eq (F_isTwo (F_isRower s k).2 w) 0 then (-2 : Int32) else F_rowerOf (F_isRower s k).2 k w), (F_isRower s k).2) := rfl
  have eC : F_crower s k w = bif m_cmp .eq (F_cisRower s k) 0 then ((-2)) else (bif m_cmp .ne (F_isBelow s w 2) 0 then (bif m_cmp .ne w 0 then s 12 k.toNatClampNeg else s 11 k.toNatClampNeg) else ((-2))) := rfl
  rw [eC, eM, r1, r2, is2_e, cisR_e, bl_n]
  cases q : bl k (s 10 0) with
  | false => rfl
  | true =>
    cases q2 : bl w 2 with
    | false => rfl
    | true =>
      have hk : k.toNatClampNeg < (s 10 0).toNatClampNeg := (bl_ofn q).2
      obtain ⟨e1, e2⟩ := d2 _ hk
      have eR : F_rowerOf (F_reads s) k w = bif m_cmp .ne w 0 then F_reads s 127 k.toNatClampNeg else F_reads s 126 k.toNatClampNeg := rfl
      (try dsimp only [nT, nF, cT, cF]); rw [eR, e1, e2]
theorem q_call {s : SG} (t : KT s) (c : KC s) (m w : Int32) : F_ccall s m w = (F_call s m w).1 := by
  obtain ⟨-, -, d3⟩ := kd t c
  have eM : F_call s m w = bif m_cmp .eq (F_isMinute s m) 0 then ((-2 : Int32), s) else (bif m_cmp .eq (F_isTwo s w) 0 then ((-2 : Int32), s) else (F_callOf s m w)) := rfl
  have eC : F_ccall s m w = bif m_cmp .eq (F_isBelow s m 24) 0 then ((-2)) else (bif m_cmp .ne (F_isBelow s w 2) 0 then (bif m_cmp .ne w 0 then s 14 m.toNatClampNeg else s 13 m.toNatClampNeg) else ((-2))) := rfl
  rw [eC, eM, isM_e, is2_e, bl_e, bl_n]
  cases q : bl m 24 with
  | false => rfl
  | true =>
    cases q2 : bl w 2 with
    | false => rfl
    | true =>
      have hm : m.toNatClampNeg < 24 := (bl_ofn q).2
      obtain ⟨e1, e2⟩ := d3 _ hm
      have eR : F_callOf s m w = (bif m_cmp .ne w 0 then F_reads s 129 m.toNatClampNeg else F_reads s 128 m.toNatClampNeg, F_reads s) := rfl
      (try dsimp only [nT, nF, cT, cF]); rw [eR, e1, e2]
theorem q_fault {s : SG} (t : KT s) (x : Int32) : F_cfault s x = (F_fault s x).1 := by
  obtain ⟨f0, f1, f2⟩ := faults t
  have eM : F_fault s x = bif m_cmp .eq (F_isText s x) 0 then ((-2 : Int32), s) else (F_faultOf s x) := rfl
  have eO : ∀ y : Int32, F_faultOf s y = (bif m_cmp .ne y 0 then (bif m_cmp .ne y 1 then (F_readsRudder (F_readsRates (F_readsCrew s).2).2).1 else (F_readsRates (F_readsCrew s).2).1) else (F_readsCrew s).1, (F_readsRudder (F_readsRates (F_readsCrew s).2).2).2) := fun _ => rfl
  unfold F_cfault
  rw [eM, isX_e, eO]
  by_cases e0 : x = 0
  · rw [if_pos e0, e0]
    have eC : F_cfault_0 s = F_crewFault s := rfl
    rw [eC, f0]
    rfl
  by_cases e1 : x = 1
  · rw [if_neg e0, if_pos e1, e1]
    have eC : F_cfault_1 s = F_signFault_1 s := rfl
    rw [eC, f1]
    rfl
  by_cases e2 : x = 2
  · rw [if_neg e0, if_neg e1, if_pos e2, e2]
    have eC : F_cfault_2 s = F_signFault_2 s := rfl
    rw [eC, f2]
    rfl
  have hb : bl x 3 = false := by
    cases q : bl x 3 with
    | false => rfl
    | true =>
      rcases bl_3.mp q with w | w | w
      · exact absurd w e0
      · exact absurd w e1
      · exact absurd w e2
  rw [if_neg e0, if_neg e1, if_neg e2, hb]
  rfl
