/-! the crew: what a text of rowers says -/
def fitCb (i : Nat) (b : Int32) : Bool := if i % 3 = 0 then (bif m_cmp .eq b 115 then true else (bif m_cmp .eq b 102 then true else m_cmp .eq b 108)) else if i % 3 = 1 then (bif m_cmp .lt b 49 then false else !(m_cmp .gt b 57)) else m_cmp .eq b 59
/-- the fault of it -/
def CrS (L : Nat) (b : NI) (x : Int32) : Prop := (∃ i, i < L ∧ (∀ j, j < i → fitCb j (b j) = true) ∧ fitCb i (b i) = false ∧ x = Int32.ofNat i) ∨ ((∀ j, j < L → fitCb j (b j) = true) ∧ x = if L = 0 ∨ L % 3 = 2 then -1 else Int32.ofNat L)
theorem CrS.uniq {L : Nat} {b : NI} {x y : Int32} (h1 : CrS L b x) (h2 : CrS L b y) : x = y := by
  rcases h1 with ⟨i, i1, i2, i3, rfl⟩ | ⟨i1, rfl⟩
  · rcases h2 with ⟨j, j1, j2, j3, rfl⟩ | ⟨j1, rfl⟩
    · have e : i = j := by
        rcases Nat.lt_trichotomy i j with q | q | q
        · have := j2 i q
          rw [i3] at this
          cases this
        · exact q
        · have := i2 j q
          rw [j3] at this
          cases this
      rw [e]
    · have := j1 i i1
      rw [i3] at this
      cases this
  · rcases h2 with ⟨j, j1, j2, j3, rfl⟩ | ⟨j1, rfl⟩
    · have := i1 j j1
      rw [j3] at this
      cases this
    · rfl
theorem CrS.cong {L : Nat} {b c : NI} {x : Int32} (h : CrS L b x) (e : ∀ j, j < L → b j = c j) : CrS L c x := by
  rcases h with ⟨i, i1, i2, i3, rfl⟩ | ⟨i1, rfl⟩
  · exact Or.inl ⟨i, i1, fun j hj => by rw [← e j (by omega)]; exact i2 j hj, by rw [← e i i1]; exact i3, rfl⟩
  · exact Or.inr ⟨fun j hj => by rw [← e j hj]; exact i1 j hj, rfl⟩
theorem m3 : ∀ i, i < 24 → Int32.ofNat i - Int32.ofNat i / 3 * 3 = Int32.ofNat (i % 3) := by decide
theorem l23 : ∀ L, L < 24 → (bif m_cmp .eq (Int32.ofNat L) 0 then (-1 : Int32) else (bif m_cmp .ne (Int32.ofNat (L % 3)) 2 then Int32.ofNat L else (-1 : Int32))) = if L = 0 ∨ L % 3 = 2 then -1 else Int32.ofNat L := by decide
theorem eq_ne0 (b : Bool) : m_cmp .ne (bif b then (1 : Int32) else (0 : Int32)) 0 = b := by cases b <;> rfl
theorem fitsC (s : SG) (i : Nat) (hi : i < 24) (b : Int32) : m_cmp .ne (F_fitsCrew s (Int32.ofNat i - Int32.ofNat i / 3 * 3) b) 0 = fitCb i b := by
  rw [m3 i hi]
  unfold fitCb
  have h3 : i % 3 = 0 ∨ i % 3 = 1 ∨ i % 3 = 2 := by omega
  rcases h3 with e | e | e
  · rw [e, if_pos rfl]
    show m_cmp .ne (bif m_cmp .eq b 115 then (1 : Int32) else (bif m_cmp .eq b 102 then (1 : Int32) else (bif m_cmp .ne b 108 then (0 : Int32) else (1 : Int32)))) 0 = _
    rw [eq_ne b 108]
    cases m_cmp .eq b 115
    · cases m_cmp .eq b 102
      · cases m_cmp .ne b 108 <;> rfl
      · rfl
    · rfl
  · rw [e, if_neg (by decide), if_pos rfl]
    show m_cmp .ne (bif m_cmp .lt b 49 then (0 : Int32) else (bif m_cmp .gt b 57 then (0 : Int32) else (1 : Int32))) 0 = _
    cases m_cmp .lt b 49
    · cases m_cmp .gt b 57 <;> rfl
    · rfl
  · rw [e, if_neg (by decide), if_neg (by decide)]
    show m_cmp .ne (bif m_cmp .ne b 59 then (0 : Int32) else (1 : Int32)) 0 = _
    rw [eq_ne b 59]
    cases m_cmp .ne b 59 <;> rfl
theorem ofn_cl (v : Int32) (h : 0 ≤ v.toInt) : Int32.ofNat v.toNatClampNeg = v := by
  apply Int32.toInt_inj.mp
  rw [ofn_int (cl_lt v)]
  exact Int.toNat_of_nonneg h
theorem crC {s : SG} (h0 : 0 ≤ (s 109 1).toInt) (h1 : (s 109 1).toNatClampNeg ≤ 23) : CrS (s 109 1).toNatClampNeg (s 110) (F_crewFault s) := by
  have key : ∀ (n lo : Nat), lo + n = (s 109 1).toNatClampNeg → (∀ j, j < lo → fitCb j (s 110 j) = true) → (itx (B_crewFault_2 s) lo n () = .inl () ∧ ∀ j, j < (s 109 1).toNatClampNeg → fitCb j (s 110 j) = true) ∨ ∃ i, i < (s 109 1).toNatClampNeg ∧ itx (B_crewFault_2 s) lo n () = .inr (i, Int32.ofNat i) ∧ (∀ j, j < i → fitCb j (s 110 j) = true) ∧ fitCb i (s 110 i) = false := by
    intro n
    induction n with
    | zero => intro lo hl hj; exact Or.inl ⟨rfl, fun j h => hj j (by omega)⟩
    | succ n ih =>
      intro lo hl hj
      have hB : B_crewFault_2 s lo () = (bif fitCb lo (s 110 lo) then .inl () else .inr (Int32.ofNat lo)) := by
        unfold B_crewFault_2
        rw [fitsC s lo (by omega)]
      cases q : fitCb lo (s 110 lo) with
      | true =>
        rw [itx_l _ (x := ()) (by rw [hB, q]; rfl)]
        exact ih (lo + 1) (by omega) (fun j h => by
          by_cases w : j = lo
          · rw [w]; exact q
          · exact hj j (by omega))
      | false =>
        rw [itx_r _ (b := Int32.ofNat lo) (by rw [hB, q]; rfl)]
        exact Or.inr ⟨lo, by omega, rfl, hj, q⟩
  unfold F_crewFault
  rcases key (s 109 1).toNatClampNeg 0 (Nat.zero_add _) (fun j h => absurd h (by omega)) with ⟨k1, k2⟩ | ⟨i, k1, k2, k3, k4⟩
  · rw [k1]
    refine Or.inr ⟨k2, ?_⟩
    show (bif m_cmp .eq (s 109 1) 0 then (-1 : Int32) else (bif m_cmp .ne ((s 109 1) - (s 109 1) / 3 * 3) 2 then s 109 1 else (-1 : Int32))) = _
    have ec := ofn_cl _ h0
    generalize (s 109 1).toNatClampNeg = L at *
    rw [← ec, m3 L (by omega)]
    exact l23 L (by omega)
  · rw [k2]
    exact Or.inl ⟨i, k1, k3, k4, rfl⟩
def srtV (b : Int32) : Int32 := bif m_cmp .ne b 115 then (bif m_cmp .ne b 102 then (2 : Int32) else (1 : Int32)) else (0 : Int32)
/-- how many rowers the fault leaves -/
def rowN (len x : Int32) : Int32 := bif m_cmp .ne x (-1) then (0 : Int32) else (len + 1) / 3
theorem dv3 : ∀ L, L < 24 → ((Int32.ofNat L + 1) / 3).toNatClampNeg = (L + 1) / 3 := by decide
theorem idx3 {i c : Nat} (hi : i < 8) (hc : c < 3) : ((3 * Int32.ofNat i) + Int32.ofNat c).toNatClampNeg = 3 * i + c := by
  rw [show (3 * Int32.ofNat i) + Int32.ofNat c = Int32.ofNat (3 * i + c) from ofn_add (ofn_mul rfl rfl) rfl]
  exact Int32.toNatClampNeg_ofNat_of_lt (by omega)
theorem idx30 {i : Nat} (hi : i < 8) : (3 * Int32.ofNat i).toNatClampNeg = 3 * i := by
  rw [show 3 * Int32.ofNat i = Int32.ofNat (3 * i) from ofn_mul rfl rfl]
  exact Int32.toNatClampNeg_ofNat_of_lt (by omega)
theorem tkC {s : SG} (hn : (rowN (s 109 1) (F_crewFault s)).toNatClampNeg ≤ 8) : F_takeCrew s 10 0 = rowN (s 109 1) (F_crewFault s) ∧ ∀ k, k < (rowN (s 109 1) (F_crewFault s)).toNatClampNeg → F_takeCrew s 11 k = srtV (s 110 (3 * k)) ∧ F_takeCrew s 12 k = s 110 (3 * k + 1) - 48 := by
  have key : ∀ i, i ≤ (rowN (s 109 1) (F_crewFault s)).toNatClampNeg → Fr WL_takeCrew (uset s 10 0 (rowN (s 109 1) (F_crewFault s))) (itr B_takeCrew_16 0 i (uset s 10 0 (rowN (s 109 1) (F_crewFault s)))) ∧ ∀ k, k < i → itr B_takeCrew_16 0 i (uset s 10 0 (rowN (s 109 1) (F_crewFault s))) 11 k = srtV (s 110 (3 * k)) ∧ itr B_takeCrew_16 0 i (uset s 10 0 (rowN (s 109 1) (F_crewFault s))) 12 k = s 110 (3 * k + 1) - 48 := by
    intro i
    induction i with
    | zero => exact fun _ => ⟨Fr.rf _ _, fun k hk => absurd hk (by omega)⟩
    | succ i ih =>
      intro hi
      obtain ⟨f, e⟩ := ih (by omega)
      rw [itr_0]
      generalize itr B_takeCrew_16 0 i (uset s 10 0 (rowN (s 109 1) (F_crewFault s))) = a at f e
      refine ⟨f.tr (fr_B_takeCrew_16 i a), fun k hk => ?_⟩
      have hB : B_takeCrew_16 i a = uset (uset a 11 i (srtV (a 110 (3 * Int32.ofNat i).toNatClampNeg))) 12 i (a 110 ((3 * Int32.ofNat i) + 1).toNatClampNeg - 48) := rfl
      have e1 : ((3 * Int32.ofNat i) + 1).toNatClampNeg = 3 * i + 1 := idx3 (c := 1) (by omega) (by decide)
      have e110 : ∀ j, a 110 j = s 110 j := fun j => f 110 j rfl
      rw [hB, idx30 (by omega), e1, e110, e110]
      by_cases q : k = i
      · subst q
        exact ⟨(uset_na (by decide)).trans (uset_eq _ _ _ _), uset_eq _ _ _ _⟩
      · rw [uset_na (by decide), uset_nj q, uset_nj q, uset_na (by decide)]
        exact e k (by omega)
  obtain ⟨f, e⟩ := key _ (Nat.le_refl _)
  have eF : F_takeCrew s = itr B_takeCrew_16 0 (rowN (s 109 1) (F_crewFault s)).toNatClampNeg (uset s 10 0 (rowN (s 109 1) (F_crewFault s))) := rfl
  rw [eF]
  exact ⟨f 10 0 rfl, e⟩
