/-! KU, KC behind type, wipe, undo (printed by wip/u/mk_txt.py) -/
theorem ofn_c {n : Nat} (h : n < 1000) : (Int32.ofNat n).toNatClampNeg = n := Int32.toNatClampNeg_ofNat_of_lt (by omega)
theorem mark_na {s : SG} {a j : Nat} (h : a ≠ 0) : F_mark s a j = s a j := (uset_na h).trans (uset_na h)
theorem lenO {v : Int32} {n : Nat} (h0 : 0 ≤ v.toInt) (h : v.toNatClampNeg ≤ n) : ∃ L, L ≤ n ∧ v = Int32.ofNat L := ⟨v.toNatClampNeg, h, (ofn_cl v h0).symm⟩
theorem ret_0 {s : SG} (h0 : 0 ≤ (s 109 1).toInt) (h1 : (s 109 1).toNatClampNeg ≤ 23) : KC0 (F_takeCrew s) := by
  have ft := fr_takeCrew s
  have C := crC h0 h1
  have hn : (rowN (s 109 1) (F_crewFault s)).toNatClampNeg ≤ 8 := by
    apply Decidable.byContradiction
    intro q
    have := rowLt h0 h1 (k := 8) (x := F_crewFault s) (by omega)
    omega
  have T := tkC hn
  have e9 : F_takeCrew s 109 1 = s 109 1 := ft 109 1 rfl
  have e10 : F_takeCrew s 110 = s 110 := funext (fun j => ft 110 j rfl)
  generalize F_takeCrew s = z at *
  refine ⟨⟨F_crewFault s, by rw [e9, e10]; exact C, by rw [T.1, e9]⟩, fun k hk => ?_⟩
  rw [T.1] at hk
  rw [e10]
  exact T.2 k hk
theorem ret_1 (s : SG) : KC1 (F_takeRates s) := by
  have ft := fr_takeRates s
  have T := tkR s
  have e9 : F_takeRates s 111 1 = s 111 1 := ft 111 1 rfl
  have e10 : F_takeRates s 112 = s 112 := funext (fun j => ft 112 j rfl)
  generalize F_takeRates s = z at *
  intro t ht
  rw [e9, e10]
  exact T t ht
theorem ret_2 (s : SG) : KC2 (F_takeRudder s) := by
  have ft := fr_takeRudder s
  have T := tkD s
  have e9 : F_takeRudder s 113 1 = s 113 1 := ft 113 1 rfl
  have e10 : F_takeRudder s 114 = s 114 := funext (fun j => ft 114 j rfl)
  generalize F_takeRudder s = z at *
  intro t ht
  rw [e9, e10]
  exact T t ht
theorem KU.put_0 {s f : SG} {L : Nat} {b : Int32} (h : KU s) (hL : s 124 0 = Int32.ofNat L) (hc : L < 23) (ag : Ag [(111, 112, none), (113, 114, none), (124, 124, some 1), (124, 124, some 2)] s f) (e1 : f 109 1 = Int32.ofNat (L + 1)) (e2 : f 124 0 = Int32.ofNat (L + 1)) (e3 : ∀ k, f 110 k = if k = L then b else s 110 k) (e4 : ∀ k, f 125 k = if k = L then b else s 125 k) : KU f := by
  have c1 : (Int32.ofNat (L + 1)).toNatClampNeg = L + 1 := ofn_c (by omega)
  have c2 : (Int32.ofNat L).toNatClampNeg = L := ofn_c (by omega)
  have c3 : (Int32.ofNat (L + 1)).toInt = ((L + 1 : Nat) : Int) := ofn_int (by omega)
  obtain ⟨⟨⟨l0, l1, l2, l3⟩, n0, n1, n2, t0, t1, t2⟩, u1, u2⟩ := h
  have g1 : f 124 1 = s 124 1 := ag 124 1 rfl
  have a1 : f 111 1 = s 111 1 := ag 111 1 rfl
  have b1 : f 112 = s 112 := funext (fun j => ag 112 j rfl)
  have g2 : f 124 2 = s 124 2 := ag 124 2 rfl
  have a2 : f 113 1 = s 113 1 := ag 113 1 rfl
  have b2 : f 114 = s 114 := funext (fun j => ag 114 j rfl)
  unfold KU KT lnM
  rw [e1, e2, c1, g1, a1, b1, g2, a2, b2]
  rw [hL, c2] at t0
  exact ⟨⟨⟨by rw [c3]; omega, by omega, l2, l3⟩, rfl, n1, n2, (fun k hk => by
    rw [e3, e4]
    by_cases q : k = L
    · rw [if_pos q, if_pos (by omega)]
    · rw [if_neg q, if_neg (by omega)]
      exact t0 k (by omega)), (fun k hk => by
    have w : 24 * 1 + k < 24 * 0 ∨ 24 * 0 + 24 ≤ 24 * 1 + k := by omega
    rw [e4, if_neg (by omega)]
    exact t1 k hk), (fun k hk => by
    have w : 24 * 2 + k < 24 * 0 ∨ 24 * 0 + 24 ≤ 24 * 2 + k := by omega
    rw [e4, if_neg (by omega)]
    exact t2 k hk)⟩, u1, u2⟩
theorem KU.cut_0 {s f : SG} {L M : Nat} (h : KU s) (hL : s 124 0 = Int32.ofNat L) (hc : L ≤ 23) (hM : M ≤ L) (ag : Ag [(111, 112, none), (113, 114, none), (124, 124, some 1), (124, 124, some 2)] s f) (e1 : f 109 1 = Int32.ofNat M) (e2 : f 124 0 = Int32.ofNat M) (e3 : f 110 = s 110) (e4 : f 125 = s 125) : KU f := by
  have c1 : (Int32.ofNat M).toNatClampNeg = M := ofn_c (by omega)
  have c2 : (Int32.ofNat L).toNatClampNeg = L := ofn_c (by omega)
  have c3 : (Int32.ofNat M).toInt = (M : Int) := ofn_int (by omega)
  obtain ⟨⟨⟨l0, l1, l2, l3⟩, n0, n1, n2, t0, t1, t2⟩, u1, u2⟩ := h
  have g1 : f 124 1 = s 124 1 := ag 124 1 rfl
  have a1 : f 111 1 = s 111 1 := ag 111 1 rfl
  have b1 : f 112 = s 112 := funext (fun j => ag 112 j rfl)
  have g2 : f 124 2 = s 124 2 := ag 124 2 rfl
  have a2 : f 113 1 = s 113 1 := ag 113 1 rfl
  have b2 : f 114 = s 114 := funext (fun j => ag 114 j rfl)
  unfold KU KT lnM
  rw [e1, e2, e3, e4, c1, g1, a1, b1, g2, a2, b2]
  rw [hL, c2] at t0
  exact ⟨⟨⟨by rw [c3]; omega, by omega, l2, l3⟩, rfl, n1, n2, (fun k hk => t0 k (by omega)), t1, t2⟩, u1, u2⟩
theorem KU.put_1 {s f : SG} {L : Nat} {b : Int32} (h : KU s) (hL : s 124 1 = Int32.ofNat L) (hc : L < 24) (ag : Ag [(109, 110, none), (113, 114, none), (124, 124, some 0), (124, 124, some 2)] s f) (e1 : f 111 1 = Int32.ofNat (L + 1)) (e2 : f 124 1 = Int32.ofNat (L + 1)) (e3 : ∀ k, f 112 k = if k = L then b else s 112 k) (e4 : ∀ k, f 125 k = if k = 24 * 1 + L then b else s 125 k) : KU f := by
  have c1 : (Int32.ofNat (L + 1)).toNatClampNeg = L + 1 := ofn_c (by omega)
  have c2 : (Int32.ofNat L).toNatClampNeg = L := ofn_c (by omega)
  have c3 : (Int32.ofNat (L + 1)).toInt = ((L + 1 : Nat) : Int) := ofn_int (by omega)
  obtain ⟨⟨⟨l0, l1, l2, l3⟩, n0, n1, n2, t0, t1, t2⟩, u1, u2⟩ := h
  have g0 : f 124 0 = s 124 0 := ag 124 0 rfl
  have a0 : f 109 1 = s 109 1 := ag 109 1 rfl
  have b0 : f 110 = s 110 := funext (fun j => ag 110 j rfl)
  have g2 : f 124 2 = s 124 2 := ag 124 2 rfl
  have a2 : f 113 1 = s 113 1 := ag 113 1 rfl
  have b2 : f 114 = s 114 := funext (fun j => ag 114 j rfl)
  unfold KU KT lnM
  rw [e1, e2, c1, g0, a0, b0, g2, a2, b2]
  rw [hL, c2] at t1
  exact ⟨⟨⟨l0, l1, by omega, l3⟩, n0, rfl, n2, (fun k hk => by
    have w : k < 24 * 1 ∨ 24 * 1 + 24 ≤ k := by omega
    rw [e4, if_neg (by omega)]
    exact t0 k hk), (fun k hk => by
    rw [e3, e4]
    by_cases q : k = L
    · rw [if_pos q, if_pos (by omega)]
    · rw [if_neg q, if_neg (by omega)]
      exact t1 k (by omega)), (fun k hk => by
    have w : 24 * 2 + k < 24 * 1 ∨ 24 * 1 + 24 ≤ 24 * 2 + k := by omega
    rw [e4, if_neg (by omega)]
    exact t2 k hk)⟩, by rw [c3]; omega, u2⟩
theorem KU.cut_1 {s f : SG} {L M : Nat} (h : KU s) (hL : s 124 1 = Int32.ofNat L) (hc : L ≤ 24) (hM : M ≤ L) (ag : Ag [(109, 110, none), (113, 114, none), (124, 124, some 0), (124, 124, some 2)] s f) (e1 : f 111 1 = Int32.ofNat M) (e2 : f 124 1 = Int32.ofNat M) (e3 : f 112 = s 112) (e4 : f 125 = s 125) : KU f := by
  have c1 : (Int32.ofNat M).toNatClampNeg = M := ofn_c (by omega)
  have c2 : (Int32.ofNat L).toNatClampNeg = L := ofn_c (by omega)
  have c3 : (Int32.ofNat M).toInt = (M : Int) := ofn_int (by omega)
  obtain ⟨⟨⟨l0, l1, l2, l3⟩, n0, n1, n2, t0, t1, t2⟩, u1, u2⟩ := h
  have g0 : f 124 0 = s 124 0 := ag 124 0 rfl
  have a0 : f 109 1 = s 109 1 := ag 109 1 rfl
  have b0 : f 110 = s 110 := funext (fun j => ag 110 j rfl)
  have g2 : f 124 2 = s 124 2 := ag 124 2 rfl
  have a2 : f 113 1 = s 113 1 := ag 113 1 rfl
  have b2 : f 114 = s 114 := funext (fun j => ag 114 j rfl)
  unfold KU KT lnM
  rw [e1, e2, e3, e4, c1, g0, a0, b0, g2, a2, b2]
  rw [hL, c2] at t1
  exact ⟨⟨⟨l0, l1, by omega, l3⟩, n0, rfl, n2, t0, (fun k hk => t1 k (by omega)), t2⟩, by rw [c3]; omega, u2⟩
theorem KU.put_2 {s f : SG} {L : Nat} {b : Int32} (h : KU s) (hL : s 124 2 = Int32.ofNat L) (hc : L < 24) (ag : Ag [(109, 110, none), (111, 112, none), (124, 124, some 0), (124, 124, some 1)] s f) (e1 : f 113 1 = Int32.ofNat (L + 1)) (e2 : f 124 2 = Int32.ofNat (L + 1)) (e3 : ∀ k, f 114 k = if k = L then b else s 114 k) (e4 : ∀ k, f 125 k = if k = 24 * 2 + L then b else s 125 k) : KU f := by
  have c1 : (Int32.ofNat (L + 1)).toNatClampNeg = L + 1 := ofn_c (by omega)
  have c2 : (Int32.ofNat L).toNatClampNeg = L := ofn_c (by omega)
  have c3 : (Int32.ofNat (L + 1)).toInt = ((L + 1 : Nat) : Int) := ofn_int (by omega)
  obtain ⟨⟨⟨l0, l1, l2, l3⟩, n0, n1, n2, t0, t1, t2⟩, u1, u2⟩ := h
  have g0 : f 124 0 = s 124 0 := ag 124 0 rfl
  have a0 : f 109 1 = s 109 1 := ag 109 1 rfl
  have b0 : f 110 = s 110 := funext (fun j => ag 110 j rfl)
  have g1 : f 124 1 = s 124 1 := ag 124 1 rfl
  have a1 : f 111 1 = s 111 1 := ag 111 1 rfl
  have b1 : f 112 = s 112 := funext (fun j => ag 112 j rfl)
  unfold KU KT lnM
  rw [e1, e2, c1, g0, a0, b0, g1, a1, b1]
  rw [hL, c2] at t2
  exact ⟨⟨⟨l0, l1, l2, by omega⟩, n0, n1, rfl, (fun k hk => by
    have w : k < 24 * 2 ∨ 24 * 2 + 24 ≤ k := by omega
    rw [e4, if_neg (by omega)]
    exact t0 k hk), (fun k hk => by
    have w : 24 * 1 + k < 24 * 2 ∨ 24 * 2 + 24 ≤ 24 * 1 + k := by omega
    rw [e4, if_neg (by omega)]
    exact t1 k hk), (fun k hk => by
    rw [e3, e4]
    by_cases q : k = L
    · rw [if_pos q, if_pos (by omega)]
    · rw [if_neg q, if_neg (by omega)]
      exact t2 k (by omega))⟩, u1, by rw [c3]; omega⟩
theorem KU.cut_2 {s f : SG} {L M : Nat} (h : KU s) (hL : s 124 2 = Int32.ofNat L) (hc : L ≤ 24) (hM : M ≤ L) (ag : Ag [(109, 110, none), (111, 112, none), (124, 124, some 0), (124, 124, some 1)] s f) (e1 : f 113 1 = Int32.ofNat M) (e2 : f 124 2 = Int32.ofNat M) (e3 : f 114 = s 114) (e4 : f 125 = s 125) : KU f := by
  have c1 : (Int32.ofNat M).toNatClampNeg = M := ofn_c (by omega)
  have c2 : (Int32.ofNat L).toNatClampNeg = L := ofn_c (by omega)
  have c3 : (Int32.ofNat M).toInt = (M : Int) := ofn_int (by omega)
  obtain ⟨⟨⟨l0, l1, l2, l3⟩, n0, n1, n2, t0, t1, t2⟩, u1, u2⟩ := h
  have g0 : f 124 0 = s 124 0 := ag 124 0 rfl
  have a0 : f 109 1 = s 109 1 := ag 109 1 rfl
  have b0 : f 110 = s 110 := funext (fun j => ag 110 j rfl)
  have g1 : f 124 1 = s 124 1 := ag 124 1 rfl
  have a1 : f 111 1 = s 111 1 := ag 111 1 rfl
  have b1 : f 112 = s 112 := funext (fun j => ag 112 j rfl)
  unfold KU KT lnM
  rw [e1, e2, e3, e4, c1, g0, a0, b0, g1, a1, b1]
  rw [hL, c2] at t2
  exact ⟨⟨⟨l0, l1, l2, by omega⟩, n0, n1, rfl, t0, t1, (fun k hk => t2 k (by omega))⟩, u1, by rw [c3]; omega⟩
