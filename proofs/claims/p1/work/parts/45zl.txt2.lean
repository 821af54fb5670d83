/-! type, wipe, undo: texts and the told course stay alike (printed by wip/u/mk_txt.py) -/
theorem mty_0 {s : SG} {L : Nat} (hL : s 124 0 = Int32.ofNat L) (hc : L ≤ 23) (b : Int32) : F_type s 0 b = bif bl b 256 then (bif m_cmp .ne (Int32.ofNat L) 23 then (uset (uset s 125 (24 * 0 + L) b) 124 0 (Int32.ofNat L + 1) 124 0, uset (uset s 125 (24 * 0 + L) b) 124 0 (Int32.ofNat L + 1)) else ((-4), s)) else ((-2), s) := by
  have z : (0 : Int32).toNatClampNeg = 0 := rfl
  have e1 : m_cmp .eq (F_isText s 0) 0 = false := rfl
  have e2 : (bif m_cmp .ne (0 : Int32) 0 then (24 : Int32) else (23 : Int32)) = 23 := rfl
  have e3 : m_cmp .ne (F_in s b 0 255) 0 = bl b 256 := in_n s b 255 256 rfl
  dsimp only [F_type]
  rw [e1, e2, e3, z, hL]
  cases bl b 256
  · rfl
  · cases q : m_cmp .ne (Int32.ofNat L) 23 with
    | false => rfl
    | true =>
      have l : L < 23 := by
        apply Decidable.byContradiction
        intro w
        have w : L = 23 := by omega
        rw [w] at q
        cases q
      have i0 : ((24 * (0 : Int32)) + Int32.ofNat L).toNatClampNeg = 24 * 0 + L := idx24 (k := 0) (by decide) (by omega)
      rw [i0]
      rfl
theorem ltx_0 {L : Nat} (hc : L ≤ 23) : m_cmp .lt (Int32.ofNat L) 23 = m_cmp .ne (Int32.ofNat L) 23 := by
  have e : (23 : Int32).toInt = 23 := by decide
  have e2 : (Int32.ofNat L).toInt = (L : Int) := ofn_int (by omega)
  by_cases q : L = 23
  · rw [q]; rfl
  · rw [m_lt_iff.mpr (by omega)]
    cases w : m_cmp .ne (Int32.ofNat L) 23 with
    | true => rfl
    | false =>
      have h := m_ff m_ne_iff w
      have h2 : Int32.ofNat L = 23 := Decidable.not_not.mp h
      have h3 := congrArg Int32.toInt h2
      omega
theorem rtC_0 {s u : SG} {L : Nat} (h : KC s) (fu : Fr [(109, 110, none)] s u) (hu1 : u 109 1 = Int32.ofNat L) (hL : L ≤ 23) : KC (F_retell_0 u) ∧ Fr [(10, 14, none), (0, 0, none)] u (F_retell_0 u) := by
  have hu2 : 0 ≤ (Int32.ofNat L).toInt := by rw [ofn_int (by omega)]; omega
  have hu3 : (Int32.ofNat L).toNatClampNeg ≤ 23 := by rw [ofn_c (by omega)]; exact hL
  have eR : F_retell_0 u = F_mark (F_takeCrew u) := rfl
  obtain ⟨h0, h1, h2⟩ := h
  rw [eR]
  exact ⟨⟨(ret_0 (by rw [hu1]; exact hu2) (by rw [hu1]; exact hu3)).ag ((fr_mark (F_takeCrew u)).ag DC0 rfl), ((h1.ag (fu.ag DC1 rfl)).ag ((fr_takeCrew u).ag DC1 rfl)).ag ((fr_mark (F_takeCrew u)).ag DC1 rfl), ((h2.ag (fu.ag DC2 rfl)).ag ((fr_takeCrew u).ag DC2 rfl)).ag ((fr_mark (F_takeCrew u)).ag DC2 rfl)⟩, (Fr.wk (fr_takeCrew u) rfl).tr (Fr.wk (fr_mark (F_takeCrew u)) rfl)⟩
theorem kty_0 {s : SG} (b : Int32) (h : KU s) (h2 : KC s) : KU (F_type (F_ctype_0 s b).2 0 b).2 ∧ KC (F_type (F_ctype_0 s b).2 0 b).2 := by
  obtain ⟨L, hc, hL⟩ : ∃ L, L ≤ 23 ∧ s 124 0 = Int32.ofNat L := lenO h.1.1.1 h.1.1.2.1
  have hA : s 109 1 = Int32.ofNat L := h.1.2.1.trans hL
  have eC : F_ctype_0 s b = bif bl b 256 then (bif m_cmp .ne (Int32.ofNat L) 23 then ((F_retell_0 (uset (uset s 110 L b) 109 1 (Int32.ofNat L + 1))) 109 1, F_retell_0 (uset (uset s 110 L b) 109 1 (Int32.ofNat L + 1))) else ((-4), s)) else ((-2), s) := by
    have e1 : m_cmp .eq (F_isBelow s 0 3) 0 = false := rfl
    have e0 : (Int32.ofNat L).toNatClampNeg = L := ofn_c (by omega)
    dsimp only [F_ctype_0]
    rw [e1, bl_n, hA, e0, ltx_0 hc]
    rfl
  cases q1 : bl b 256 with
  | false =>
    rw [q1] at eC
    have eC : F_ctype_0 s b = ((-2), s) := eC
    rw [eC, mty_0 hL hc, q1]
    exact ⟨h, h2⟩
  | true =>
    cases q2 : m_cmp .ne (Int32.ofNat L) 23 with
    | false =>
      rw [q1, q2] at eC
      have eC : F_ctype_0 s b = ((-4), s) := eC
      rw [eC, mty_0 hL hc, q1, q2]
      exact ⟨h, h2⟩
    | true =>
      have l : L < 23 := by
        apply Decidable.byContradiction
        intro w
        have w : L = 23 := by omega
        rw [w] at q2
        cases q2
      rw [q1, q2] at eC
      have fu : Fr [(109, 110, none)] s (uset (uset s 110 L b) 109 1 (Int32.ofNat L + 1)) := Fr.uset rfl (Fr.uset rfl (Fr.rf _ _))
      have hu1 : uset (uset s 110 L b) 109 1 (Int32.ofNat L + 1) 109 1 = Int32.ofNat (L + 1) := (uset_eq _ _ _ _).trans (ofn_s L)
      have hub : ∀ k, uset (uset s 110 L b) 109 1 (Int32.ofNat L + 1) 110 k = if k = L then b else s 110 k := fun k => by
        rw [uset_na (by decide)]
        by_cases w : k = L
        · rw [if_pos w, w]; exact uset_eq _ _ _ _
        · rw [if_neg w]; exact uset_nj w
      have eC : F_ctype_0 s b = (_, F_retell_0 (uset (uset s 110 L b) 109 1 (Int32.ofNat L + 1))) := eC
      have R := rtC_0 h2 fu hu1 (by omega)
      rw [eC]
      generalize uset (uset s 110 L b) 109 1 (Int32.ofNat L + 1) = u at *
      generalize F_retell_0 u = c at *
      obtain ⟨R1, R2⟩ := R
      have hc2 : c 124 0 = Int32.ofNat L := (R2 124 0 rfl).trans ((fu 124 0 rfl).trans hL)
      show KU (F_type c 0 b).2 ∧ KC (F_type c 0 b).2
      rw [mty_0 hc2 hc, q1, q2]
      show KU (uset (uset c 125 (24 * 0 + L) b) 124 0 (Int32.ofNat L + 1)) ∧ KC (uset (uset c 125 (24 * 0 + L) b) 124 0 (Int32.ofNat L + 1))
      have ff : Fr [(125, 125, none), (124, 124, some 0)] c (uset (uset c 125 (24 * 0 + L) b) 124 0 (Int32.ofNat L + 1)) := Fr.uset rfl (Fr.uset rfl (Fr.rf _ _))
      refine ⟨KU.put_0 (b := b) h hL l (((fu.ag _ rfl).tr (R2.ag _ rfl)).tr (ff.ag _ rfl)) ?_ ((uset_eq _ _ _ _).trans (ofn_s L)) (fun k => ?_) (fun k => ?_), R1.ag (ff.ag DC rfl)⟩
      · rw [ff 109 1 rfl, R2 109 1 rfl]; exact hu1
      · rw [ff 110 k rfl, R2 110 k rfl]; exact hub k
      · rw [uset_na (by decide)]
        by_cases w : k = 24 * 0 + L
        · rw [if_pos (by omega), w]; exact uset_eq _ _ _ _
        · rw [if_neg (by omega), uset_nj w, R2 125 k rfl]; exact fu 125 k rfl
theorem kcut_0 {s : SG} {L M : Nat} (h : KU s) (h2 : KC s) (hL : s 124 0 = Int32.ofNat L) (hc : L ≤ 23) (hM : M ≤ L) : KU (uset (F_retell_0 (uset s 109 1 (Int32.ofNat M))) 124 0 (Int32.ofNat M)) ∧ KC (uset (F_retell_0 (uset s 109 1 (Int32.ofNat M))) 124 0 (Int32.ofNat M)) ∧ F_retell_0 (uset s 109 1 (Int32.ofNat M)) 124 0 = Int32.ofNat L := by
  have fu : Fr [(109, 110, none)] s (uset s 109 1 (Int32.ofNat M)) := Fr.uset rfl (Fr.rf _ _)
  have hu1 : uset s 109 1 (Int32.ofNat M) 109 1 = Int32.ofNat M := uset_eq _ _ _ _
  have hub : uset s 109 1 (Int32.ofNat M) 110 = s 110 := funext (fun k => uset_na (by decide))
  have R := rtC_0 h2 fu hu1 (by omega)
  generalize uset s 109 1 (Int32.ofNat M) = u at *
  generalize F_retell_0 u = c at *
  obtain ⟨R1, R2⟩ := R
  have ff : Fr [(125, 125, none), (124, 124, some 0)] c (uset c 124 0 (Int32.ofNat M)) := Fr.uset rfl (Fr.rf _ _)
  refine ⟨KU.cut_0 h hL hc hM (((fu.ag _ rfl).tr (R2.ag _ rfl)).tr (ff.ag _ rfl)) ?_ (uset_eq _ _ _ _) (funext (fun k => ?_)) (funext (fun k => ?_)), R1.ag (ff.ag DC rfl), (R2 124 0 rfl).trans ((fu 124 0 rfl).trans hL)⟩
  · rw [ff 109 1 rfl, R2 109 1 rfl]; exact hu1
  · rw [ff 110 k rfl, R2 110 k rfl, hub]
  · rw [uset_na (by decide), R2 125 k rfl]; exact fu 125 k rfl
theorem kwi_0 {s : SG} (h : KU s) (h2 : KC s) : KU (F_wipe (F_cwipe_0 s).2 0).2 ∧ KC (F_wipe (F_cwipe_0 s).2 0).2 := by
  obtain ⟨L, hc, hL⟩ : ∃ L, L ≤ 23 ∧ s 124 0 = Int32.ofNat L := lenO h.1.1.1 h.1.1.2.1
  have K := kcut_0 (M := 0) h h2 hL hc (by omega)
  have eC : F_cwipe_0 s = (s 109 1, F_retell_0 (uset s 109 1 (Int32.ofNat 0))) := rfl
  rw [eC]
  generalize F_retell_0 (uset s 109 1 (Int32.ofNat 0)) = c at *
  have eM : F_wipe c 0 = (c 124 0, uset c 124 0 (Int32.ofNat 0)) := rfl
  show KU (F_wipe c 0).2 ∧ KC (F_wipe c 0).2
  rw [eM]
  exact ⟨K.1, K.2.1⟩
theorem kun_0 {s : SG} (h : KU s) (h2 : KC s) : KU (F_undo (F_cundo_0 s).2 0).2 ∧ KC (F_undo (F_cundo_0 s).2 0).2 := by
  obtain ⟨L, hc, hL⟩ : ∃ L, L ≤ 23 ∧ s 124 0 = Int32.ofNat L := lenO h.1.1.1 h.1.1.2.1
  have hA : s 109 1 = Int32.ofNat L := h.1.2.1.trans hL
  have eC : F_cundo_0 s = bif m_cmp .ne (Int32.ofNat L) 0 then ((F_retell_0 (uset s 109 1 (Int32.ofNat L - 1))) 109 1, F_retell_0 (uset s 109 1 (Int32.ofNat L - 1))) else ((-3), s) := by
    have e1 : m_cmp .ne (F_isBelow s 0 3) 0 = true := rfl
    dsimp only [F_cundo_0]
    rw [e1, hA]
    rfl
  have eM : ∀ c : SG, c 124 0 = Int32.ofNat L → F_undo c 0 = bif m_cmp .ne (Int32.ofNat L) 0 then ((uset c 124 0 (Int32.ofNat L - 1)) 124 0, uset c 124 0 (Int32.ofNat L - 1)) else ((-3), c) := fun c hcL => by
    have e1 : m_cmp .ne (F_isText c 0) 0 = true := rfl
    have z : (0 : Int32).toNatClampNeg = 0 := rfl
    dsimp only [F_undo]
    rw [e1, z, hcL]
    rfl
  cases L with
  | zero =>
    have eC : F_cundo_0 s = ((-3), s) := eC
    rw [eC]
    show KU (F_undo s 0).2 ∧ KC (F_undo s 0).2
    rw [eM s hL]
    exact ⟨h, h2⟩
  | succ M =>
    have e1 : Int32.ofNat (M + 1) - 1 = Int32.ofNat M := by
      rw [← ofn_s]
      exact Int32.add_sub_cancel _ _
    have e2 : m_cmp .ne (Int32.ofNat (M + 1)) 0 = true := m_ne_iff.mpr (fun w => by
      have w := congrArg Int32.toInt w
      rw [ofn_int (by omega)] at w
      have e : (0 : Int32).toInt = 0 := by decide
      omega)
    have K := kcut_0 (M := M) h h2 hL hc (by omega)
    rw [e1, e2] at eC
    have eC : F_cundo_0 s = (_, F_retell_0 (uset s 109 1 (Int32.ofNat M))) := eC
    rw [eC]
    generalize F_retell_0 (uset s 109 1 (Int32.ofNat M)) = c at *
    show KU (F_undo c 0).2 ∧ KC (F_undo c 0).2
    rw [eM c K.2.2, e1, e2]
    exact ⟨K.1, K.2.1⟩
theorem mty_1 {s : SG} {L : Nat} (hL : s 124 1 = Int32.ofNat L) (hc : L ≤ 24) (b : Int32) : F_type s 1 b = bif bl b 256 then (bif m_cmp .ne (Int32.ofNat L) 24 then (uset (uset s 125 (24 * 1 + L) b) 124 1 (Int32.ofNat L + 1) 124 1, uset (uset s 125 (24 * 1 + L) b) 124 1 (Int32.ofNat L + 1)) else ((-4), s)) else ((-2), s) := by
  have z : (1 : Int32).toNatClampNeg = 1 := rfl
  have e1 : m_cmp .eq (F_isText s 1) 0 = false := rfl
  have e2 : (bif m_cmp .ne (1 : Int32) 0 then (24 : Int32) else (23 : Int32)) = 24 := rfl
  have e3 : m_cmp .ne (F_in s b 0 255) 0 = bl b 256 := in_n s b 255 256 rfl
  dsimp only [F_type]
  rw [e1, e2, e3, z, hL]
  cases bl b 256
  · rfl
  · cases q : m_cmp .ne (Int32.ofNat L) 24 with
    | false => rfl
    | true =>
      have l : L < 24 := by
        apply Decidable.byContradiction
        intro w
        have w : L = 24 := by omega
        rw [w] at q
        cases q
      have i0 : ((24 * (1 : Int32)) + Int32.ofNat L).toNatClampNeg = 24 * 1 + L := idx24 (k := 1) (by decide) (by omega)
      rw [i0]
      rfl
theorem ltx_1 {L : Nat} (hc : L ≤ 24) : m_cmp .lt (Int32.ofNat L) 24 = m_cmp .ne (Int32.ofNat L) 24 := by
  have e : (24 : Int32).toInt = 24 := by decide
  have e2 : (Int32.ofNat L).toInt = (L : Int) := ofn_int (by omega)
  by_cases q : L = 24
  · rw [q]; rfl
  · rw [m_lt_iff.mpr (by omega)]
    cases w : m_cmp .ne (Int32.ofNat L) 24 with
    | true => rfl
    | false =>
      have h := m_ff m_ne_iff w
      have h2 : Int32.ofNat L = 24 := Decidable.not_not.mp h
      have h3 := congrArg Int32.toInt h2
      omega
theorem rtC_1 {s u : SG} {L : Nat} (h : KC s) (fu : Fr [(111, 112, none)] s u) (hu1 : u 111 1 = Int32.ofNat L) (hL : L ≤ 24) : KC (F_retell_1 u) ∧ Fr [(10, 14, none), (0, 0, none)] u (F_retell_1 u) := by
  have hu2 : 0 ≤ (Int32.ofNat L).toInt := by rw [ofn_int (by omega)]; omega
  have hu3 : (Int32.ofNat L).toNatClampNeg ≤ 24 := by rw [ofn_c (by omega)]; exact hL
  have eR : F_retell_1 u = F_mark (F_takeRates u) := rfl
  obtain ⟨h0, h1, h2⟩ := h
  rw [eR]
  exact ⟨⟨((h0.ag (fu.ag DC0 rfl)).ag ((fr_takeRates u).ag DC0 rfl)).ag ((fr_mark (F_takeRates u)).ag DC0 rfl), (ret_1 u).ag ((fr_mark (F_takeRates u)).ag DC1 rfl), ((h2.ag (fu.ag DC2 rfl)).ag ((fr_takeRates u).ag DC2 rfl)).ag ((fr_mark (F_takeRates u)).ag DC2 rfl)⟩, (Fr.wk (fr_takeRates u) rfl).tr (Fr.wk (fr_mark (F_takeRates u)) rfl)⟩
theorem kty_1 {s : SG} (b : Int32) (h : KU s) (h2 : KC s) : KU (F_type (F_ctype_1 s b).2 1 b).2 ∧ KC (F_type (F_ctype_1 s b).2 1 b).2 := by
  obtain ⟨L, hc, hL⟩ : ∃ L, L ≤ 24 ∧ s 124 1 = Int32.ofNat L := lenO h.2.1 h.1.1.2.2.1
  have hA : s 111 1 = Int32.ofNat L := h.1.2.2.1.trans hL
  have eC : F_ctype_1 s b = bif bl b 256 then (bif m_cmp .ne (Int32.ofNat L) 24 then ((F_retell_1 (uset (uset s 112 L b) 111 1 (Int32.ofNat L + 1))) 111 1, F_retell_1 (uset (uset s 112 L b) 111 1 (Int32.ofNat L + 1))) else ((-4), s)) else ((-2), s) := by
    have e1 : m_cmp .eq (F_isBelow s 1 3) 0 = false := rfl
    have e0 : (Int32.ofNat L).toNatClampNeg = L := ofn_c (by omega)
    dsimp only [F_ctype_1]
    rw [e1, bl_n, hA, e0, ltx_1 hc]
    rfl
  cases q1 : bl b 256 with
  | false =>
    rw [q1] at eC
    have eC : F_ctype_1 s b = ((-2), s) := eC
    rw [eC, mty_1 hL hc, q1]
    exact ⟨h, h2⟩
  | true =>
    cases q2 : m_cmp .ne (Int32.ofNat L) 24 with
    | false =>
      rw [q1, q2] at eC
      have eC : F_ctype_1 s b = ((-4), s) := eC
      rw [eC, mty_1 hL hc, q1, q2]
      exact ⟨h, h2⟩
    | true =>
      have l : L < 24 := by
        apply Decidable.byContradiction
        intro w
        have w : L = 24 := by omega
        rw [w] at q2
        cases q2
      rw [q1, q2] at eC
      have fu : Fr [(111, 112, none)] s (uset (uset s 112 L b) 111 1 (Int32.ofNat L + 1)) := Fr.uset rfl (Fr.uset rfl (Fr.rf _ _))
      have hu1 : uset (uset s 112 L b) 111 1 (Int32.ofNat L + 1) 111 1 = Int32.ofNat (L + 1) := (uset_eq _ _ _ _).trans (ofn_s L)
      have hub : ∀ k, uset (uset s 112 L b) 111 1 (Int32.ofNat L + 1) 112 k = if k = L then b else s 112 k := fun k => by
        rw [uset_na (by decide)]
        by_cases w : k = L
        · rw [if_pos w, w]; exact uset_eq _ _ _ _
        · rw [if_neg w]; exact uset_nj w
      have eC : F_ctype_1 s b = (_, F_retell_1 (uset (uset s 112 L b) 111 1 (Int32.ofNat L + 1))) := eC
      have R := rtC_1 h2 fu hu1 (by omega)
      rw [eC]
      generalize uset (uset s 112 L b) 111 1 (Int32.ofNat L + 1) = u at *
      generalize F_retell_1 u = c at *
      obtain ⟨R1, R2⟩ := R
      have hc2 : c 124 1 = Int32.ofNat L := (R2 124 1 rfl).trans ((fu 124 1 rfl).trans hL)
      show KU (F_type c 1 b).2 ∧ KC (F_type c 1 b).2
      rw [mty_1 hc2 hc, q1, q2]
      show KU (uset (uset c 125 (24 * 1 + L) b) 124 1 (Int32.ofNat L + 1)) ∧ KC (uset (uset c 125 (24 * 1 + L) b) 124 1 (Int32.ofNat L + 1))
      have ff : Fr [(125, 125, none), (124, 124, some 1)] c (uset (uset c 125 (24 * 1 + L) b) 124 1 (Int32.ofNat L + 1)) := Fr.uset rfl (Fr.uset rfl (Fr.rf _ _))
      refine ⟨KU.put_1 (b := b) h hL l (((fu.ag _ rfl).tr (R2.ag _ rfl)).tr (ff.ag _ rfl)) ?_ ((uset_eq _ _ _ _).trans (ofn_s L)) (fun k => ?_) (fun k => ?_), R1.ag (ff.ag DC rfl)⟩
      · rw [ff 111 1 rfl, R2 111 1 rfl]; exact hu1
      · rw [ff 112 k rfl, R2 112 k rfl]; exact hub k
      · rw [uset_na (by decide)]
        by_cases w : k = 24 * 1 + L
        · rw [if_pos (by omega), w]; exact uset_eq _ _ _ _
        · rw [if_neg (by omega), uset_nj w, R2 125 k rfl]; exact fu 125 k rfl
theorem kcut_1 {s : SG} {L M : Nat} (h : KU s) (h2 : KC s) (hL : s 124 1 = Int32.ofNat L) (hc : L ≤ 24) (hM : M ≤ L) : KU (uset (F_retell_1 (uset s 111 1 (Int32.ofNat M))) 124 1 (Int32.ofNat M)) ∧ KC (uset (F_retell_1 (uset s 111 1 (Int32.ofNat M))) 124 1 (Int32.ofNat M)) ∧ F_retell_1 (uset s 111 1 (Int32.ofNat M)) 124 1 = Int32.ofNat L := by
  have fu : Fr [(111, 112, none)] s (uset s 111 1 (Int32.ofNat M)) := Fr.uset rfl (Fr.rf _ _)
  have hu1 : uset s 111 1 (Int32.ofNat M) 111 1 = Int32.ofNat M := uset_eq _ _ _ _
  have hub : uset s 111 1 (Int32.ofNat M) 112 = s 112 := funext (fun k => uset_na (by decide))
  have R := rtC_1 h2 fu hu1 (by omega)
  generalize uset s 111 1 (Int32.ofNat M) = u at *
  generalize F_retell_1 u = c at *
  obtain ⟨R1, R2⟩ := R
  have ff : Fr [(125, 125, none), (124, 124, some 1)] c (uset c 124 1 (Int32.ofNat M)) := Fr.uset rfl (Fr.rf _ _)
  refine ⟨KU.cut_1 h hL hc hM (((fu.ag _ rfl).tr (R2.ag _ rfl)).tr (ff.ag _ rfl)) ?_ (uset_eq _ _ _ _) (funext (fun k => ?_)) (funext (fun k => ?_)), R1.ag (ff.ag DC rfl), (R2 124 1 rfl).trans ((fu 124 1 rfl).trans hL)⟩
  · rw [ff 111 1 rfl, R2 111 1 rfl]; exact hu1
  · rw [ff 112 k rfl, R2 112 k rfl, hub]
  · rw [uset_na (by decide), R2 125 k rfl]; exact fu 125 k rfl
theorem kwi_1 {s : SG} (h : KU s) (h2 : KC s) : KU (F_wipe (F_cwipe_1 s).2 1).2 ∧ KC (F_wipe (F_cwipe_1 s).2 1).2 := by
  obtain ⟨L, hc, hL⟩ : ∃ L, L ≤ 24 ∧ s 124 1 = Int32.ofNat L := lenO h.2.1 h.1.1.2.2.1
  have K := kcut_1 (M := 0) h h2 hL hc (by omega)
  have eC : F_cwipe_1 s = (s 111 1, F_retell_1 (uset s 111 1 (Int32.ofNat 0))) := rfl
  rw [eC]
  generalize F_retell_1 (uset s 111 1 (Int32.ofNat 0)) = c at *
  have eM : F_wipe c 1 = (c 124 1, uset c 124 1 (Int32.ofNat 0)) := rfl
  show KU (F_wipe c 1).2 ∧ KC (F_wipe c 1).2
  rw [eM]
  exact ⟨K.1, K.2.1⟩
theorem kun_1 {s : SG} (h : KU s) (h2 : KC s) : KU (F_undo (F_cundo_1 s).2 1).2 ∧ KC (F_undo (F_cundo_1 s).2 1).2 := by
  obtain ⟨L, hc, hL⟩ : ∃ L, L ≤ 24 ∧ s 124 1 = Int32.ofNat L := lenO h.2.1 h.1.1.2.2.1
  have hA : s 111 1 = Int32.ofNat L := h.1.2.2.1.trans hL
  have eC : F_cundo_1 s = bif m_cmp .ne (Int32.ofNat L) 0 then ((F_retell_1 (uset s 111 1 (Int32.ofNat L - 1))) 111 1, F_retell_1 (uset s 111 1 (Int32.ofNat L - 1))) else ((-3), s) := by
    have e1 : m_cmp .ne (F_isBelow s 1 3) 0 = true := rfl
    dsimp only [F_cundo_1]
    rw [e1, hA]
    rfl
  have eM : ∀ c : SG, c 124 1 = Int32.ofNat L → F_undo c 1 = bif m_cmp .ne (Int32.ofNat L) 0 then ((uset c 124 1 (Int32.ofNat L - 1)) 124 1, uset c 124 1 (Int32.ofNat L - 1)) else ((-3), c) := fun c hcL => by
    have e1 : m_cmp .ne (F_isText c 1) 0 = true := rfl
    have z : (1 : Int32).toNatClampNeg = 1 := rfl
    dsimp only [F_undo]
    rw [e1, z, hcL]
    rfl
  cases L with
  | zero =>
    have eC : F_cundo_1 s = ((-3), s) := eC
    rw [eC]
    show KU (F_undo s 1).2 ∧ KC (F_undo s 1).2
    rw [eM s hL]
    exact ⟨h, h2⟩
  | succ M =>
    have e1 : Int32.ofNat (M + 1) - 1 = Int32.ofNat M := by
      rw [← ofn_s]
      exact Int32.add_sub_cancel _ _
    have e2 : m_cmp .ne (Int32.ofNat (M + 1)) 0 = true := m_ne_iff.mpr (fun w => by
      have w := congrArg Int32.toInt w
      rw [ofn_int (by omega)] at w
      have e : (0 : Int32).toInt = 0 := by decide
      omega)
    have K := kcut_1 (M := M) h h2 hL hc (by omega)
    rw [e1, e2] at eC
    have eC : F_cundo_1 s = (_, F_retell_1 (uset s 111 1 (Int32.ofNat M))) := eC
    rw [eC]
    generalize F_retell_1 (uset s 111 1 (Int32.ofNat M)) = c at *
    show KU (F_undo c 1).2 ∧ KC (F_undo c 1).2
    rw [eM c K.2.2, e1, e2]
    exact ⟨K.1, K.2.1⟩
theorem mty_2 {s : SG} {L : Nat} (hL : s 124 2 = Int32.ofNat L) (hc : L ≤ 24) (b : Int32) : F_type s 2 b = bif bl b 256 then (bif m_cmp .ne (Int32.ofNat L) 24 then (uset (uset s 125 (24 * 2 + L) b) 124 2 (Int32.ofNat L + 1) 124 2, uset (uset s 125 (24 * 2 + L) b) 124 2 (Int32.ofNat L + 1)) else ((-4), s)) else ((-2), s) := by
  have z : (2 : Int32).toNatClampNeg = 2 := rfl
  have e1 : m_cmp .eq (F_isText s 2) 0 = false := rfl
  have e2 : (bif m_cmp .ne (2 : Int32) 0 then (24 : Int32) else (23 : Int32)) = 24 := rfl
  have e3 : m_cmp .ne (F_in s b 0 255) 0 = bl b 256 := in_n s b 255 256 rfl
  dsimp only [F_type]
  rw [e1, e2, e3, z, hL]
  cases bl b 256
  · rfl
  · cases q : m_cmp .ne (Int32.ofNat L) 24 with
    | false => rfl
    | true =>
      have l : L < 24 := by
        apply Decidable.byContradiction
        intro w
        have w : L = 24 := by omega
        rw [w] at q
        cases q
      have i0 : ((24 * (2 : Int32)) + Int32.ofNat L).toNatClampNeg = 24 * 2 + L := idx24 (k := 2) (by decide) (by omega)
      rw [i0]
      rfl
theorem ltx_2 {L : Nat} (hc : L ≤ 24) : m_cmp .lt (Int32.ofNat L) 24 = m_cmp .ne (Int32.ofNat L) 24 := by
  have e : (24 : Int32).toInt = 24 := by decide
  have e2 : (Int32.ofNat L).toInt = (L : Int) := ofn_int (by omega)
  by_cases q : L = 24
  · rw [q]; rfl
  · rw [m_lt_iff.mpr (by omega)]
    cases w : m_cmp .ne (Int32.ofNat L) 24 with
    | true => rfl
    | false =>
      have h := m_ff m_ne_iff w
      have h2 : Int32.ofNat L = 24 := Decidable.not_not.mp h
      have h3 := congrArg Int32.toInt h2
      omega
theorem rtC_2 {s u : SG} {L : Nat} (h : KC s) (fu : Fr [(113, 114, none)] s u) (hu1 : u 113 1 = Int32.ofNat L) (hL : L ≤ 24) : KC (F_retell_2 u) ∧ Fr [(10, 14, none), (0, 0, none)] u (F_retell_2 u) := by
  have hu2 : 0 ≤ (Int32.ofNat L).toInt := by rw [ofn_int (by omega)]; omega
  have hu3 : (Int32.ofNat L).toNatClampNeg ≤ 24 := by rw [ofn_c (by omega)]; exact hL
  have eR : F_retell_2 u = F_mark (F_takeRudder u) := rfl
  obtain ⟨h0, h1, h2⟩ := h
  rw [eR]
  exact ⟨⟨((h0.ag (fu.ag DC0 rfl)).ag ((fr_takeRudder u).ag DC0 rfl)).ag ((fr_mark (F_takeRudder u)).ag DC0 rfl), ((h1.ag (fu.ag DC1 rfl)).ag ((fr_takeRudder u).ag DC1 rfl)).ag ((fr_mark (F_takeRudder u)).ag DC1 rfl), (ret_2 u).ag ((fr_mark (F_takeRudder u)).ag DC2 rfl)⟩, (Fr.wk (fr_takeRudder u) rfl).tr (Fr.wk (fr_mark (F_takeRudder u)) rfl)⟩
theorem kty_2 {s : SG} (b : Int32) (h : KU s) (h2 : KC s) : KU (F_type (F_ctype_2 s b).2 2 b).2 ∧ KC (F_type (F_ctype_2 s b).2 2 b).2 := by
  obtain ⟨L, hc, hL⟩ : ∃ L, L ≤ 24 ∧ s 124 2 = Int32.ofNat L := lenO h.2.2 h.1.1.2.2.2
  have hA : s 113 1 = Int32.ofNat L := h.1.2.2.2.1.trans hL
  have eC : F_ctype_2 s b = bif bl b 256 then (bif m_cmp .ne (Int32.ofNat L) 24 then ((F_retell_2 (uset (uset s 114 L b) 113 1 (Int32.ofNat L + 1))) 113 1, F_retell_2 (uset (uset s 114 L b) 113 1 (Int32.ofNat L + 1))) else ((-4), s)) else ((-2), s) := by
    have e1 : m_cmp .eq (F_isBelow s 2 3) 0 = false := rfl
    have e0 : (Int32.ofNat L).toNatClampNeg = L := ofn_c (by omega)
    dsimp only [F_ctype_2]
    rw [e1, bl_n, hA, e0, ltx_2 hc]
    rfl
  cases q1 : bl b 256 with
  | false =>
    rw [q1] at eC
    have eC : F_ctype_2 s b = ((-2), s) := eC
    rw [eC, mty_2 hL hc, q1]
    exact ⟨h, h2⟩
  | true =>
    cases q2 : m_cmp .ne (Int32.ofNat L) 24 with
    | false =>
      rw [q1, q2] at eC
      have eC : F_ctype_2 s b = ((-4), s) := eC
      rw [eC, mty_2 hL hc, q1, q2]
      exact ⟨h, h2⟩
    | true =>
      have l : L < 24 := by
        apply Decidable.byContradiction
        intro w
        have w : L = 24 := by omega
        rw [w] at q2
        cases q2
      rw [q1, q2] at eC
      have fu : Fr [(113, 114, none)] s (uset (uset s 114 L b) 113 1 (Int32.ofNat L + 1)) := Fr.uset rfl (Fr.uset rfl (Fr.rf _ _))
      have hu1 : uset (uset s 114 L b) 113 1 (Int32.ofNat L + 1) 113 1 = Int32.ofNat (L + 1) := (uset_eq _ _ _ _).trans (ofn_s L)
      have hub : ∀ k, uset (uset s 114 L b) 113 1 (Int32.ofNat L + 1) 114 k = if k = L then b else s 114 k := fun k => by
        rw [uset_na (by decide)]
        by_cases w : k = L
        · rw [if_pos w, w]; exact uset_eq _ _ _ _
        · rw [if_neg w]; exact uset_nj w
      have eC : F_ctype_2 s b = (_, F_retell_2 (uset (uset s 114 L b) 113 1 (Int32.ofNat L + 1))) := eC
      have R := rtC_2 h2 fu hu1 (by omega)
      rw [eC]
      generalize uset (uset s 114 L b) 113 1 (Int32.ofNat L + 1) = u at *
      generalize F_retell_2 u = c at *
      obtain ⟨R1, R2⟩ := R
      have hc2 : c 124 2 = Int32.ofNat L := (R2 124 2 rfl).trans ((fu 124 2 rfl).trans hL)
      show KU (F_type c 2 b).2 ∧ KC (F_type c 2 b).2
      rw [mty_2 hc2 hc, q1, q2]
      show KU (uset (uset c 125 (24 * 2 + L) b) 124 2 (Int32.ofNat L + 1)) ∧ KC (uset (uset c 125 (24 * 2 + L) b) 124 2 (Int32.ofNat L + 1))
      have ff : Fr [(125, 125, none), (124, 124, some 2)] c (uset (uset c 125 (24 * 2 + L) b) 124 2 (Int32.ofNat L + 1)) := Fr.uset rfl (Fr.uset rfl (Fr.rf _ _))
      refine ⟨KU.put_2 (b := b) h hL l (((fu.ag _ rfl).tr (R2.ag _ rfl)).tr (ff.ag _ rfl)) ?_ ((uset_eq _ _ _ _).trans (ofn_s L)) (fun k => ?_) (fun k => ?_), R1.ag (ff.ag DC rfl)⟩
      · rw [ff 113 1 rfl, R2 113 1 rfl]; exact hu1
      · rw [ff 114 k rfl, R2 114 k rfl]; exact hub k
      · rw [uset_na (by decide)]
        by_cases w : k = 24 * 2 + L
        · rw [if_pos (by omega), w]; exact uset_eq _ _ _ _
        · rw [if_neg (by omega), uset_nj w, R2 125 k rfl]; exact fu 125 k rfl
theorem kcut_2 {s : SG} {L M : Nat} (h : KU s) (h2 : KC s) (hL : s 124 2 = Int32.ofNat L) (hc : L ≤ 24) (hM : M ≤ L) : KU (uset (F_retell_2 (uset s 113 1 (Int32.ofNat M))) 124 2 (Int32.ofNat M)) ∧ KC (uset (F_retell_2 (uset s 113 1 (Int32.ofNat M))) 124 2 (Int32.ofNat M)) ∧ F_retell_2 (uset s 113 1 (Int32.ofNat M)) 124 2 = Int32.ofNat L := by
  have fu : Fr [(113, 114, none)] s (uset s 113 1 (Int32.ofNat M)) := Fr.uset rfl (Fr.rf _ _)
  have hu1 : uset s 113 1 (Int32.ofNat M) 113 1 = Int32.ofNat M := uset_eq _ _ _ _
  have hub : uset s 113 1 (Int32.ofNat M) 114 = s 114 := funext (fun k => uset_na (by decide))
  have R := rtC_2 h2 fu hu1 (by omega)
  generalize uset s 113 1 (Int32.ofNat M) = u at *
  generalize F_retell_2 u = c at *
  obtain ⟨R1, R2⟩ := R
  have ff : Fr [(125, 125, none), (124, 124, some 2)] c (uset c 124 2 (Int32.ofNat M)) := Fr.uset rfl (Fr.rf _ _)
  refine ⟨KU.cut_2 h hL hc hM (((fu.ag _ rfl).tr (R2.ag _ rfl)).tr (ff.ag _ rfl)) ?_ (uset_eq _ _ _ _) (funext (fun k => ?_)) (funext (fun k => ?_)), R1.ag (ff.ag DC rfl), (R2 124 2 rfl).trans ((fu 124 2 rfl).trans hL)⟩
  · rw [ff 113 1 rfl, R2 113 1 rfl]; exact hu1
  · rw [ff 114 k rfl, R2 114 k rfl, hub]
  · rw [uset_na (by decide), R2 125 k rfl]; exact fu 125 k rfl
theorem kwi_2 {s : SG} (h : KU s) (h2 : KC s) : KU (F_wipe (F_cwipe_2 s).2 2).2 ∧ KC (F_wipe (F_cwipe_2 s).2 2).2 := by
  obtain ⟨L, hc, hL⟩ : ∃ L, L ≤ 24 ∧ s 124 2 = Int32.ofNat L := lenO h.2.2 h.1.1.2.2.2
  have K := kcut_2 (M := 0) h h2 hL hc (by omega)
  have eC : F_cwipe_2 s = (s 113 1, F_retell_2 (uset s 113 1 (Int32.ofNat 0))) := rfl
  rw [eC]
  generalize F_retell_2 (uset s 113 1 (Int32.ofNat 0)) = c at *
  have eM : F_wipe c 2 = (c 124 2, uset c 124 2 (Int32.ofNat 0)) := rfl
  show KU (F_wipe c 2).2 ∧ KC (F_wipe c 2).2
  rw [eM]
  exact ⟨K.1, K.2.1⟩
theorem kun_2 {s : SG} (h : KU s) (h2 : KC s) : KU (F_undo (F_cundo_2 s).2 2).2 ∧ KC (F_undo (F_cundo_2 s).2 2).2 := by
  obtain ⟨L, hc, hL⟩ : ∃ L, L ≤ 24 ∧ s 124 2 = Int32.ofNat L := lenO h.2.2 h.1.1.2.2.2
  have hA : s 113 1 = Int32.ofNat L := h.1.2.2.2.1.trans hL
  have eC : F_cundo_2 s = bif m_cmp .ne (Int32.ofNat L) 0 then ((F_retell_2 (uset s 113 1 (Int32.ofNat L - 1))) 113 1, F_retell_2 (uset s 113 1 (Int32.ofNat L - 1))) else ((-3), s) := by
    have e1 : m_cmp .ne (F_isBelow s 2 3) 0 = true := rfl
    dsimp only [F_cundo_2]
    rw [e1, hA]
    rfl
  have eM : ∀ c : SG, c 124 2 = Int32.ofNat L → F_undo c 2 = bif m_cmp .ne (Int32.ofNat L) 0 then ((uset c 124 2 (Int32.ofNat L - 1)) 124 2, uset c 124 2 (Int32.ofNat L - 1)) else ((-3), c) := fun c hcL => by
    have e1 : m_cmp .ne (F_isText c 2) 0 = true := rfl
    have z : (2 : Int32).toNatClampNeg = 2 := rfl
    dsimp only [F_undo]
    rw [e1, z, hcL]
    rfl
  cases L with
  | zero =>
    have eC : F_cundo_2 s = ((-3), s) := eC
    rw [eC]
    show KU (F_undo s 2).2 ∧ KC (F_undo s 2).2
    rw [eM s hL]
    exact ⟨h, h2⟩
  | succ M =>
    have e1 : Int32.ofNat (M + 1) - 1 = Int32.ofNat M := by
      rw [← ofn_s]
      exact Int32.add_sub_cancel _ _
    have e2 : m_cmp .ne (Int32.ofNat (M + 1)) 0 = true := m_ne_iff.mpr (fun w => by
      have w := congrArg Int32.toInt w
      rw [ofn_int (by omega)] at w
      have e : (0 : Int32).toInt = 0 := by decide
      omega)
    have K := kcut_2 (M := M) h h2 hL hc (by omega)
    rw [e1, e2] at eC
    have eC : F_cundo_2 s = (_, F_retell_2 (uset s 113 1 (Int32.ofNat M))) := eC
    rw [eC]
    generalize F_retell_2 (uset s 113 1 (Int32.ofNat M)) = c at *
    show KU (F_undo c 2).2 ∧ KC (F_undo c 2).2
    rw [eM c K.2.2, e1, e2]
    exact ⟨K.1, K.2.1⟩
