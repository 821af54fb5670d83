section
/-! type, wipe, undo: texts and the told course stay alike (printed by wip/u/mk_txt.py) -/
theorem mty_0 {s : SG} {L : Nat} (hL : s 124 0 = Int32.ofNat L) (hc : L ≤ 23) (b : Int32) : F_type s 0 b = bif bl b 256 then (bif m_cmp .ne (Int32.ofNat L) 23 then (uset (uset s 125 (24 * 0 + L) b) 124 0 (Int32.ofNat L + 1) 124 0, uset (uset s 125 (24 * 0 + L) b) 124 0 (Int32.ofNat L + 1)) else ((-4), s)) else ((-2), s) := by
  have z : (0 : Int32).toNatClampNeg = 0 := rfl
  have e1 : m_cmp .eq (F_isText s 0) 0 = false := rfl
  have e2 : (bif m_cmp .ne (0 : Int32) 0 then (24 : Int32) else (23 : Int32)) = 23 := rfl
  have e3 : m_cmp .ne (F_in s b 0 255) 0 = bl b 256 := in_n s b 255 256 rfl
  dsimp only [F_type]
  rw [e1, e2, e3, z, hL]
  cases bl b 256
  · rfl
  · cases q : m_cmp .ne (Int32.ofNat L) 23 with
    | false => rfl
    | true =>
      have l : L < 23 := by
        apply Decidable.byContradiction
        intro w
        have w : L = 23 := by omega
        rw [w] at q
        cases q
      have i0 : ((24 * (0 : Int32)) + Int32.ofNat L).toNatClampNeg = 24 * 0 + L := idx24 (k := 0) (by decide) (by omega)
      rw [i0]
      rfl
theorem ltx_0 {L : Nat} (hc : L ≤ 23) : m_cmp .lt (Int32.ofNat L) 23 = m_cmp .ne (Int32.ofNat L) 23 := by
  have e : (23 : Int32).toInt = 23 := by decide
  have e2 : (Int32.ofNat L).toInt = (L : Int) := ofn_int (by omega)
  by_cases q : L = 23
  · rw [q]; rfl
  · rw [m_lt_iff.mpr (by omega)]
    cases w : m_cmp .ne (Int32.ofNat L) 23 with
    | true => rfl
    | false =>
      have h := m_ff m_ne_iff w
      have h2 : Int32.ofNat L = 23 := Decidable.not_not.mp h
      have h3 := congrArg Int32.toInt h2
      omega
theorem rtC_0 {s u : SG} {L : Nat} (h : KC s) (fu : Fr [(109, 110, none)] s u) (hu1 : u 109 1 = Int32.ofNat L) (hL : L ≤ 23) : KC (F_retell_0 u) ∧ Fr [(10, 14, none), (0, 0, none)] u (F_retell_0 u) := by
  have hu2 : 0 ≤ (Int32.ofNat L).toInt := by rw [ofn_int (by omega)]; omega
  have hu3 : (Int32.ofNat L).toNatClampNeg ≤ 23 := by rw [ofn_c (by omega)]; exact hL
  have eR : F_retell_0 u = F_mark (F_takeCrew u) := rfl
  obtain ⟨h0, h1, h2⟩ := h
  rw [eR]
  exact ⟨⟨(ret_0 (by rw [hu1]; exact hu2) (by rw [hu1]; exact hu3)).ag ((fr_mark (F_takeCrew u)).ag DC0 rfl), ((h1.ag (fu.ag DC1 rfl)).ag ((fr_takeCrew u).ag DC1 rfl)).ag ((fr_mark (F_takeCrew u)).ag DC1 rfl), ((h2.ag (fu.ag DC2 rfl)).ag ((fr_takeCrew u).ag DC2 rfl)).ag ((fr_mark (F_takeCrew u)).ag DC2 rfl)⟩, (Fr.wk (fr_takeCrew u) rfl).tr (Fr.wk (fr_mark (F_takeCrew u)) rfl)⟩
theorem kty_0 {s : SG} (b : Int32) (h : KU s) (h2 : KC s) : KU (F_type (F_ctype_0 s b).2 0 b).2 ∧ KC (F_type (F_ctype_0 s b).2 0 b).2 := by
  obtain ⟨L, hc, hL⟩ : ∃ L, L ≤ 23 ∧ s 124 0 = Int32.ofNat L := lenO h.1.1.1 h.1.1.2.1
  have hA : s 109 1 = Int32.ofNat L := h.1.2.1.trans hL
  have eC : F_ctype_0 s b = bif bl b 256 then (bif m_cmp .ne (Int32.ofNat L) 23 then ((F_retell_0 (uset (uset s 110 L b) 109 1 (Int32.ofNat L + 1))) 109 1, F_retell_0 (uset (uset s 110 L b) 109 1 (Int32.ofNat L + 1))) else ((-4), s)) else ((-2), s) := by
    have e1 : m_cmp .eq (F_isBelow s 0 3) 0 = false := rfl
    have e0 : (Int32.ofNat L).toNatClampNeg = L := ofn_c (by omega)
    dsimp only [F_ctype_0]
    rw [e1, bl_n, hA, e0, ltx_0 hc]
    rfl
  cases q1 : bl b 256 with
  | false =>
    rw [q1] at eC
    have eC : F_ctype_0 s b = ((-2), s) := eC
    rw [eC, mty_0 hL hc, q1]
    exact ⟨h, h2⟩
  | true =>
    cases q2 : m_cmp .ne (Int32.ofNat L) 23 with
    | false =>
      rw [q1, q2] at eC
      have eC : F_ctype_0 s b = ((-4), s) := eC
      rw [eC, mty_0 hL hc, q1, q2]
      exact ⟨h, h2⟩
    | true =>
      have l : L < 23 := by
        apply Decidable.byContradiction
        intro w
        have w : L = 23 := by omega
        rw [w] at q2
        cases q2
      rw [q1, q2] at eC
      have fu : Fr [(109, 110, none)] s (uset (uset s 110 L b) 109 1 (Int32.ofNat L + 1)) := Fr.uset rfl (Fr.uset rfl (Fr.rf _ _))
      have hu1 : uset (uset s 110 L b) 109 1 (Int32.ofNat L + 1) 109 1 = Int32.ofNat (L + 1) := (uset_eq _ _ _ _).trans (ofn_s L)
      have hub : ∀ k, uset (uset s 110 L b) 109 1 (Int32.ofNat L + 1) 110 k = if k = L then b else s 110 k := fun k => by
        rw [uset_na (by decide)]
        by_cases w : k = L
        · rw [if_pos w, w]; exact uset_eq _ _ _ _
        · rw [if_neg w]; exact uset_nj w
      have eC : F_ctype_0 s b = (_, F_retell_0 (uset (uset s 110 L b) 109 1 (Int32.ofNat L + 1))) := eC
      have R := rtC_0 h2 fu hu1 (by omega)
      rw [eC]
      generalize uset (uset s 110 L b) 109 1 (Int32.ofNat L + 1) = u at *
      generalize F_retell_0 u = c at *
      obtain ⟨R1, R2⟩ := R
      have hc2 : c 124 0 = Int32.ofNat L := (R2 124 0 rfl).trans ((fu 124 0 rfl).trans hL)
      show KU (F_type c 0 b).2 ∧ KC (F_type c 0 b).2
      rw [mty_0 hc2 hc, q1, q2]
      show KU (uset (uset c 125 (24 * 0 + L) b) 124 0 (Int32.ofNat L + 1)) ∧ KC (uset (uset c 125 (24 * 0 + L) b) 124 0 (Int32.ofNat L + 1))
      have ff : Fr [(125, 125, none), (124, 124, some 0)] c (uset (uset c 125 (24 * 0 + L) b) 124 0 (Int32.ofNat L + 1)) := Fr.uset rfl (Fr.uset rfl (Fr.rf _ _))
      refine ⟨KU.put_0 (b := b) h hL l (((fu.ag _ rfl).tr (R2.ag _ rfl)).tr (ff.ag _ rfl)) ?_ ((uset_eq _ _ _ _).trans (ofn_s L)) (fun k => ?_) (fun k => ?_), R1.ag (ff.ag DC rfl)⟩
      · rw [ff 109 1 rfl, R2 109 1 rfl]; exact hu1
      · rw [ff 110 k rfl, R2 110 k rfl]; exact hub k
      · rw [uset_na (by decide)]
        by_cases w : k = 24 * 0 + L
        · rw [if_pos (by omega), w]; exact uset_eq _ _ _ _
        · rw [if_neg (by omega), uset_nj w, R2 125 k rfl]; exact fu 125 k rfl
theorem kcut_0 {s : SG} {L M : Nat} (h : KU s) (h2 : KC s) (hL : s 124 0 = Int32.ofNat L) (hc : L ≤ 23) (hM : M ≤ L) : KU (uset (F_retell_0 (uset s 109 1 (Int32.ofNat M))) 124 0 (Int32.ofNat M)) ∧ KC (uset (F_retell_0 (uset s 109 1 (Int32.ofNat M))) 124 0 (Int32.ofNat M)) ∧ F_retell_0 (uset s 109 1 (Int32.ofNat M)) 124 0 = Int32.ofNat L := by
  have fu : Fr [(109, 110, none)] s (uset s 109 1 (Int32.ofNat M)) := Fr.uset rfl (Fr.rf _ _)
  have hu1 : uset s 109 1 (Int32.ofNat M) 109 1 = Int32.ofNat M := uset_eq _ _ _ _
  have hub : uset s 109 1 (Int32.ofNat M) 110 = s 110 := funext (fun k => uset_na (by decide))
  have R := rtC_0 h2 fu hu1 (by omega)
  generalize uset s 109 1 (Int32.ofNat M) = u at *
  generalize F_retell_0 u = c at *
  obtain ⟨R1, R2⟩ := R
  have ff : Fr [(125, 125, none), (124, 124, some 0)] c (uset c 124 0 (Int32.ofNat M)) := Fr.uset rfl (Fr.rf _ _)
  refine ⟨KU.cut_0 h hL hc hM (((fu.ag _ rfl).tr (R2.ag _ rfl)).tr (ff.ag _ rfl)) ?_ (uset_eq _ _ _ _) (funext (fun k => ?_)) (funext (fun k => ?_)), R1.ag (ff.ag DC rfl), (R2 124 0 rfl).trans ((fu 124 0 rfl).trans hL)⟩
  · rw [ff 109 1 rfl, R2 109 1 rfl]; exact hu1
  · rw [ff 110 k rfl, R2 110 k rfl, hub]
  · rw [uset_na (by decide), R2 125 k rfl]; exact fu 125 k rfl
theorem kwi_0 {s : SG} (h : KU s) (h2 : KC s) : KU (F_wipe (F_cwipe_0 s).2 0).2 ∧ KC (F_wipe (F_cwipe_0 s).2 0).2 := by
  obtain ⟨L, hc, hL⟩ : ∃ L, L ≤ 23 ∧ s 124 0 = Int32.ofNat L := lenO h.1.1.1 h.1.1.2.1
  have K := kcut_0 (M := 0) h h2 hL hc (by omega)
  have eC : F_cwipe_0 s = (s 109 1, F_retell_0 (uset s 109 1 (Int32.ofNat 0))) := rfl
  rw [eC]
  generalize F_retell_0 (uset s 109 1 (Int32.ofNat 0)) = c at *
  have eM : F_wipe c 0 = (c 124 0, uset c 124 0 (Int32.ofNat 0)) := rfl
  show KU (F_wipe c 0).2 ∧ KC (F_wipe c 0).2
  rw [eM]
  exact ⟨K.1, K.2.1⟩
theorem kun_0 {s : SG} (h : KU s) (h2 : KC s) : KU (F_undo (F_cundo_0 s).2 0).2 ∧ KC (F_undo (F_cundo_0 s).2 0).2 := by
  obtain ⟨L, hc, hL⟩ : ∃ L, L ≤ 23 ∧ s 124 0 = Int32.ofNat L := lenO h.1.1.1 h.1.1.2.1
  have hA : s 109 1 = Int32.ofNat L := h.1.2.1.trans hL
  have eC : F_cundo_0 s = bif m_cmp .ne (Int32.ofNat L) 0 then ((F_retell_0 (uset s 109 1 (Int32.ofNat L - 1))) 109 1, F_retell_0 (uset s 109 1 (Int32.ofNat L - 1))) else ((-3), s) := by
    have e1 : m_cmp .ne (F_isBelow s 0 3) 0 = true := rfl
    dsimp only [F_cundo_0]
    rw [e1, hA]
    rfl
  have eM : ∀ c : SG, c 124 0 = Int32.ofNat L → F_undo c 0 = bif m_cmp .ne (Int32.ofNat L) 0 then ((uset c 124 0 (Int32.ofNat L - 1)) 124 0, uset c 124 0 (Int32.ofNat L - 1)) else ((-3), c) := fun c hcL => by
    have e1 : m_cmp .ne (F_isText c 0) 0 = true := rfl
    have z : (0 : Int32).toNatClampNeg = 0 := rfl
    dsimp only [F_undo]
    rw [e1, z, hcL]
    rfl
  cases L with
  | zero =>
    have eC : F_cundo_0 s = ((-3), s) := eC
    rw [eC]
    show KU (F_undo s 0).2 ∧ KC (F_undo s 0).2
    rw [eM s hL]
    exact ⟨h, h2⟩
  | succ M =>
    have e1 : Int32.ofNat (M + 1) - 1 = Int32.ofNat M := by
      rw [← ofn_s]
      exact Int32.add_sub_cancel _ _
    have e2 : m_cmp .ne (Int32.ofNat (M + 1)) 0 = true := m_ne_iff.mpr (fun w => by
      have w := congrArg Int32.toInt w
      rw [ofn_int (by omega)] at w
      have e : (0 : Int32).toInt = 0 := by decide
      omega)
    have K := kcut_0 (M := M) h h2 hL hc (by omega)
    rw [e1, e2] at eC
    have eC : F_cundo_0 s = (_, F_retell_0 (uset s 109 1 (Int32.ofNat M))) := eC
    rw [eC]
    generalize F_retell_0 (uset s 109 1 (Int32.ofNat M)) = c at *
    show KU (F_undo c 0).2 ∧ KC (F_undo c 0).2
    rw [eM c K.2.2, e1, e2]
    exact ⟨K.1, K.2.1⟩
theorem mty_1 {s : SG} {L : Nat} (hL : s 124 1 = Int32.ofNat L) (hc : L ≤ 24) (b : Int32) : F_type s 1 b = bif bl b 256 then (bif m_cmp .ne (Int32.ofNat L) 24 then (uset (uset s 125 (24 * 1 + L) b) 124 1 (Int32.ofNat L + 1) 124 1, uset (uset s 125 (24 * 1 + L) b) 124 1 (Int32.ofNat L + 1)) else ((-4), s)) else ((-2), s) := by
  have z : (1 : Int32).toNatClampNeg = 1 := rfl
  have e1 : m_cmp .eq (F_isText s 1) 0 = false := rfl
  have e2 : (bif m_cmp .ne (1 : Int32) 0 then (24 : Int32) else (23 : Int32)) = 24 := rfl
  have e3 : m_cmp .ne (F_in s b 0 255) 0 = bl b 256 := in_n s b 255 256 rfl
  dsimp only [F_type]
  rw [e1, e2, e3, z, hL]
  cases bl b 256
  · rfl
  · cases q : m_cmp .ne (Int32.ofNat L) 24 with
    | false => rfl
    | true =>
      have l : L < 24 := by
        apply Decidable.byContradiction
        intro w
        have w : L = 24 := by omega
        rw [w] at q
        cases q
      have i0 : ((24 * (1 : Int32)) + Int32.ofNat L).toNatClampNeg = 24 * 1 + L := idx24 (k := 1) (by decide) (by omega)
      rw [i0]
      rfl
theorem ltx_1 {L : Nat} (hc : L ≤ 24) : m_cmp .lt (Int32.ofNat L) 24 = m_cmp .ne (Int32.ofNat L) 24 := by
  have e : (24 : Int32).toInt = 24 := by decide
  have e2 : (Int32.ofNat L).toInt = (L : Int) := ofn_int (by omega)
  by_cases q : L = 24
  · rw [q]; rfl
  · rw [m_lt_iff.mpr (by omega)]
    cases w : m_cmp .ne (Int32.ofNat L) 24 with
    | true => rfl
    | false =>
      have h := m_ff m_ne_iff w
      have h2 : Int32.ofNat L = 24 := Decidable.not_not.mp h
      have h3 := congrArg Int32.toInt h2
      omega
theorem rtC_1 {s u : SG} {L : Nat} (h : KC s) (fu : Fr [(111, 112, none)] s u) (hu1 : u 111 1 = Int32.ofNat L) (hL : L ≤ 24) : KC (F_retell_1 u) ∧ Fr [(10, 14, none), (0, 0, none)] u (F_retell_1 u) := by
  have hu2 : 0 ≤ (Int32.ofNat L).toInt := by rw [ofn_int (by omega)]; omega
  have hu3 : (Int32.ofNat L).toNatClampNeg ≤ 24 := by rw [ofn_c (by omega)]; exact hL
  have eR : F_retell_1 u = F_mark (F_takeRates u) := rfl
  obtain ⟨h0, h1, h2⟩ := h
  rw [eR]
  exact ⟨⟨((h0.ag (fu.ag DC0 rfl)).ag ((fr_takeRates u).ag DC0 rfl)).ag ((fr_mark (F_takeRates u)).ag DC0 rfl), (ret_1 u).ag ((fr_mark (F_takeRates u)).ag DC1 rfl), ((h2.ag (fu.ag DC2 rfl)).ag ((fr_takeRates u).ag DC2 rfl)).ag ((fr_mark (F_takeRates u)).ag DC2 rfl)⟩, (Fr.wk (fr_takeRates u) rfl).tr (Fr.wk (fr_mark (F_takeRates u)) rfl)⟩
theorem kty_1 {s : SG} (b : Int32) (h : KU s) (h2 : KC s) : KU (F_type (F_ctype_1 s b).2 1 b).2 ∧ KC (F_type (F_ctype_1 s b).2 1 b).2 := by
  obtain ⟨L, hc, hL⟩ : ∃ L, L ≤ 24 ∧ s 124 1 = Int32.ofNat L := lenO h.2.1 h.1.1.2.2.1
  have hA : s 111 1 = Int32.ofNat L := h.1.2.2.1.trans hL
  have eC : F_ctype_1 s b = bif bl b 256 then (bif m_cmp .ne (Int32.ofNat L) 24 then ((F_retell_1 (uset (uset s 112 L b) 111 1 (Int32.ofNat L + 1))) 111 1, F_retell_1 (uset (uset s 112 L b) 111 1 (Int32.ofNat L + 1))) else ((-4), s)) else ((-2), s) := by
    have e1 : m_cmp .eq (F_isBelow s 1 3) 0 = false := rfl
    have e0 : (Int32.ofNat L).toNatClampNeg = L := ofn_c (by omega)
    dsimp only [F_ctype_1]
    rw [e1, bl_n, hA, e0, ltx_1 hc]
    rfl
  cases q1 : bl b 256 with
  | false =>
    rw [q1] at eC
    have eC : F_ctype_1 s b = ((-2), s) := eC
    rw [eC, mty_1 hL hc, q1]
    exact ⟨h, h2⟩
  | true =>
    cases q2 : m_cmp .ne (Int32.ofNat L) 24 with
    | false =>
      rw [q1, q2] at eC
      have eC : F_ctype_1 s b = ((-4), s) := eC
      rw [eC, mty_1 hL hc, q1, q2]
      exact ⟨h, h2⟩
    | true =>
      have l : L < 24 := by
        apply Decidable.byContradiction
        intro w
        have w : L = 24 := by omega
        rw [w] at q2
        cases q2
      rw [q1, q2] at eC
      have fu : Fr [(111, 112, none)] s (uset (uset s 112 L b) 111 1 (Int32.ofNat L + 1)) := Fr.uset rfl (Fr.uset rfl (Fr.rf _ _))
      have hu1 : uset (uset s 112 L b) 111 1 (Int32.ofNat L + 1) 111 1 = Int32.ofNat (L + 1) := (uset_eq _ _ _ _).trans (ofn_s L)
      have hub : ∀ k, uset (uset s 112 L b) 111 1 (Int32.ofNat L + 1) 112 k = if k = L then b else s 112 k := fun k => by
        rw [uset_na (by decide)]
        by_cases w : k = L
        · rw [if_pos w, w]; exact uset_eq _ _ _ _
        · rw [if_neg w]; exact uset_nj w
      have eC : F_ctype_1 s b = (_, F_retell_1 (uset (uset s 112 L b) 111 1 (Int32.ofNat L + 1))) := eC
      have R := rtC_1 h2 fu hu1 (by omega)
      rw [eC]
      generalize uset (uset s 112 L b) 111 1 (Int32.ofNat L + 1) = u at *
      generalize F_retell_1 u = c at *
      obtain ⟨R1, R2⟩ := R
      have hc2 : c 124 1 = Int32.ofNat L := (R2 124 1 rfl).trans ((fu 124 1 rfl).trans hL)
      show KU (F_type c 1 b).2 ∧ KC (F_type c 1 b).2
      rw [mty_1 hc2 hc, q1, q2]
      show KU (uset (uset c 125 (24 * 1 + L) b) 124 1 (Int32.ofNat L + 1)) ∧ KC (uset (uset c 125 (24 * 1 + L) b) 124 1 (Int32.ofNat L + 1))
      have ff : Fr [(125, 125, none), (124, 124, some 1)] c (uset (uset c 125 (24 * 1 + L) b) 124 1 (Int32.ofNat L + 1)) := Fr.uset rfl (Fr.uset rfl (Fr.rf _ _))
      refine ⟨KU.put_1 (b := b) h hL l (((fu.ag _ rfl).tr (R2.ag _ rfl)).tr (ff.ag _ rfl)) ?_ ((uset_eq _ _ _ _).trans (ofn_s L)) (fun k => ?_) (fun k => ?_), R1.ag (ff.ag DC rfl)⟩
      · rw [ff 111 1 rfl, R2 111 1 rfl]; exact hu1
      · rw [ff 112 k rfl, R2 112 k rfl]; exact hub k
      · rw [uset_na (by decide)]
        by_cases w : k = 24 * 1 + L
        · rw [if_pos (by omega), w]; exact uset_eq _ _ _ _
        · rw [if_neg (by omega), uset_nj w, R2 125 k rfl]; exact fu 125 k rfl
theorem kcut_1 {s : SG} {L M : Nat} (h : KU s) (h2 : KC s) (hL : s 124 1 = Int32.ofNat L) (hc : L ≤ 24) (hM : M ≤ L) : KU (uset (F_retell_1 (uset s 111 1 (Int32.ofNat M))) 124 1 (Int32.ofNat M)) ∧ KC (uset (F_retell_1 (uset s 111 1 (Int32.ofNat M))) 124 1 (Int32.ofNat M)) ∧ F_retell_1 (uset s 111 1 (Int32.ofNat M)) 124 1 = Int32.ofNat L := by
  have fu : Fr [(111, 112, none)] s (uset s 111 1 (Int32.ofNat M)) := Fr.uset rfl (Fr.rf _ _)
  have hu1 : uset s 111 1 (Int32.ofNat M) 111 1 = Int32.ofNat M := uset_eq _ _ _ _
  have hub : uset s 111 1 (Int32.ofNat M) 112 = s 112 := funext (fun k => uset_na (by decide))
  have R := rtC_1 h2 fu hu1 (by omega)
  generalize uset s 111 1 (Int32.ofNat M) = u at *
  generalize F_retell_1 u = c at *
  obtain ⟨R1, R2⟩ := R
  have ff : Fr [(125, 125, none), (124, 124, some 1)] c (uset c 124 1 (Int32.ofNat M)) := Fr.uset rfl (Fr.rf _ _)
  refine ⟨KU.cut_1 h hL hc hM (((fu.ag _ rfl).tr (R2.ag _ rfl)).tr (ff.ag _ rfl)) ?_ (uset_eq _ _ _ _) (funext (fun k => ?_)) (funext (fun k => ?_)), R1.ag (ff.ag DC rfl), (R2 124 1 rfl).trans ((fu 124 1 rfl).trans hL)⟩
  · rw [ff 111 1 rfl, R2 111 1 rfl]; exact hu1
  · rw [ff 112 k rfl, R2 112 k rfl, hub]
  · rw [uset_na (by decide), R2 125 k rfl]; exact fu 125 k rfl
theorem kwi_1 {s : SG} (h : KU s) (h2 : KC s) : KU (F_wipe (F_cwipe_1 s).2 1).2 ∧ KC (F_wipe (F_cwipe_1 s).2 1).2 := by
  obtain ⟨L, hc, hL⟩ : ∃ L, L ≤ 24 ∧ s 124 1 = Int32.ofNat L := lenO h.2.1 h.1.1.2.2.1
  have K := kcut_1 (M := 0) h h2 hL hc (by omega)
  have eC : F_cwipe_1 s = (s 111 1, F_retell_1 (uset s 111 1 (Int32.ofNat 0))) := rfl
  rw [eC]
  generalize F_retell_1 (uset s 111 1 (Int32.ofNat 0)) = c at *
  have eM : F_wipe c 1 = (c 124 1, uset c 124 1 (Int32.ofNat 0)) := rfl
  show KU (F_wipe c 1).2 ∧ KC (F_wipe c 1).2
  rw [eM]
  exact ⟨K.1, K.2.1⟩
theorem kun_1 {s : SG} (h : KU s) (h2 : KC s) : KU (F_undo (F_cundo_1 s).2 1).2 ∧ KC (F_undo (F_cundo_1 s).2 1).2 := by
  obtain ⟨L, hc, hL⟩ : ∃ L, L ≤ 24 ∧ s 124 1 = Int32.ofNat L := lenO h.2.1 h.1.1.2.2.1
  have hA : s 111 1 = Int32.ofNat L := h.1.2.2.1.trans hL
  have eC : F_cundo_1 s = bif m_cmp .ne (Int32.ofNat L) 0 then ((F_retell_1 (uset s 111 1 (Int32.ofNat L - 1))) 111 1, F_retell_1 (uset s 111 1 (Int32.ofNat L - 1))) else ((-3), s) := by
    have e1 : m_cmp .ne (F_isBelow s 1 3) 0 = true := rfl
    dsimp only [F_cundo_1]
    rw [e1, hA]
    rfl
  have eM : ∀ c : SG, c 124 1 = Int32.ofNat L → F_undo c 1 = bif m_cmp .ne (Int32.ofNat L) 0 then ((uset c 124 1 (Int32.ofNat L - 1)) 124 1, uset c 124 1 (Int32.ofNat L - 1)) else ((-3), c) := fun c hcL => by
    have e1 : m_cmp .ne (F_isText c 1) 0 = true := rfl
    have z : (1 : Int32).toNatClampNeg = 1 := rfl
    dsimp only [F_undo]
    rw [e1, z, hcL]
    rfl
  cases L with
  | zero =>
    have eC : F_cundo_1 s = ((-3), s) := eC
    rw [eC]
    show KU (F_undo s 1).2 ∧ KC (F_undo s 1).2
    rw [eM s hL]
    exact ⟨h, h2⟩
  | succ M =>
    have e1 : Int32.ofNat (M + 1) - 1 = Int32.ofNat M := by
      rw [← ofn_s]
      exact Int32.add_sub_cancel _ _
    have e2 : m_cmp .ne (Int32.ofNat (M + 1)) 0 = true := m_ne_iff.mpr (fun w => by
      have w := congrArg Int32.toInt w
      rw [ofn_int (by omega)] at w
      have e : (0 : Int32).toInt = 0 := by decide
      omega)
    have K := kcut_1 (M := M) h h2 hL hc (by omega)
    rw [e1, e2] at eC
    have eC : F_cundo_1 s = (_, F_retell_1 (uset s 111 1 (Int32.ofNat M))) := eC
    rw [eC]
    generalize F_retell_1 (uset s 111 1 (Int32.ofNat M)) = c at *
    show KU (F_undo c 1).2 ∧ KC (F_undo c 1).2
    rw [eM c K.2.2, e1, e2]
    exact ⟨K.1, K.2.1⟩
theorem mty_2 {s : SG} {L : Nat} (hL : s 124 2 = Int32.ofNat L) (hc : L ≤ 24) (b : Int32) : F_type s 2 b = bif bl b 256 then (bif m_cmp .ne (Int32.ofNat L) 24 then (uset (uset s 125 (24 * 2 + L) b) 124 2 (Int32.ofNat L + 1) 124 2, uset (uset s 125 (24 * 2 + L) b) 124 2 (Int32.ofNat L + 1)) else ((-4), s)) else ((-2), s) := by
  have z : (2 : Int32).toNatClampNeg = 2 := rfl
  have e1 : m_cmp .eq (F_isText s 2) 0 = false := rfl
  have e2 : (bif m_cmp .ne (2 : Int32) 0 then (24 : Int32) else (23 : Int32)) = 24 := rfl
  have e3 : m_cmp .ne (F_in s b 0 255) 0 = bl b 256 := in_n s b 255 256 rfl
  dsimp only [F_type]
  rw [e1, e2, e3, z, hL]
  cases bl b 256
  · rfl
  · cases q : m_cmp .ne (Int32.ofNat L) 24 with
    | false => rfl
    | true =>
      have l : L < 24 := by
        apply Decidable.byContradiction
        intro w
        have w : L = 24 := by omega
        rw [w] at q
        cases q
      have i0 : ((24 * (2 : Int32)) + Int32.ofNat L).toNatClampNeg = 24 * 2 + L := idx24 (k := 2) (by decide) (by omega)
      rw [i0]
      rfl
theorem ltx_2 {L : Nat} (hc : L ≤ 24) : m_cmp .lt (Int32.ofNat L) 24 = m_cmp .ne (Int32.ofNat L) 24 := by
  have e : (24 : Int32).toInt = 24 := by decide
  have e2 : (Int32.ofNat L).toInt = (L : Int) := ofn_int (by omega)
  by_cases q : L = 24
  · rw [q]; rfl
  · rw [m_lt_iff.mpr (by omega)]
    cases w : m_cmp .ne (Int32.ofNat L) 24 with
    | true => rfl
    | false =>
      have h := m_ff m_ne_iff w
      have h2 : Int32.ofNat L = 24 := Decidable.not_not.mp h
      have h3 := congrArg Int32.toInt h2
      omega
theorem rtC_2 {s u : SG} {L : Nat} (h : KC s) (fu : Fr [(113, 114, none)] s u) (hu1 : u 113 1 = Int32.ofNat L) (hL : L ≤ 24) : KC (F_retell_2 u) ∧ Fr [(10, 14, none), (0, 0, none)] u (F_retell_2 u) := by
  have hu2 : 0 ≤ (Int32.ofNat L).toInt := by rw [ofn_int (by omega)]; omega
  have hu3 : (Int32.ofNat L).toNatClampNeg ≤ 24 := by rw [ofn_c (by omega)]; exact hL
  have eR : F_retell_2 u = F_mark (F_takeRudder u) := rfl
  obtain ⟨h0, h1, h2⟩ := h
  rw [eR]
  exact ⟨⟨((h0.ag (fu.ag DC0 rfl)).ag ((fr_takeRudder u).ag DC0 rfl)).ag ((fr_mark (F_takeRudder u)).ag DC0 rfl), ((h1.ag (fu.ag DC1 rfl)).ag ((fr_takeRudder u).ag DC1 rfl)).ag ((fr_mark (F_takeRudder u)).ag DC1 rfl), (ret_2 u).ag ((fr_mark (F_takeRudder u)).ag DC2 rfl)⟩, (Fr.wk (fr_takeRudder u) rfl).tr (Fr.wk (fr_mark (F_takeRudder u)) rfl)⟩
theorem kty_2 {s : SG} (b : Int32) (h : KU s) (h2 : KC s) : KU (F_type (F_ctype_2 s b).2 2 b).2 ∧ KC (F_type (F_ctype_2 s b).2 2 b).2 := by
  obtain ⟨L, hc, hL⟩ : ∃ L, L ≤ 24 ∧ s 124 2 = Int32.ofNat L := lenO h.2.2 h.1.1.2.2.2
  have hA : s 113 1 = Int32.ofNat L := h.1.2.2.2.1.trans hL
  have eC : F_ctype_2 s b = bif bl b 256 then (bif m_cmp .ne (Int32.ofNat L) 24 then ((F_retell_2 (uset (uset s 114 L b) 113 1 (Int32.ofNat L + 1))) 113 1, F_retell_2 (uset (uset s 114 L b) 113 1 (Int32.ofNat L + 1))) else ((-4), s)) else ((-2), s) := by
    have e1 : m_cmp .eq (F_isBelow s 2 3) 0 = false := rfl
    have e0 : (Int32.ofNat L).toNatClampNeg = L := ofn_c (by omega)
    dsimp only [F_ctype_2]
    rw [e1, bl_n, hA, e0, ltx_2 hc]
    rfl
  cases q1 : bl b 256 with
  | false =>
    rw [q1] at eC
    have eC : F_ctype_2 s b = ((-2), s) := eC
    rw [eC, mty_2 hL hc, q1]
    exact ⟨h, h2⟩
  | true =>
    cases q2 : m_cmp .ne (Int32.ofNat L) 24 with
    | false =>
      rw [q1, q2] at eC
      have eC : F_ctype_2 s b = ((-4), s) := eC
      rw [eC, mty_2 hL hc, q1, q2]
      exact ⟨h, h2⟩
    | true =>
      have l : L < 24 := by
        apply Decidable.byContradiction
        intro w
        have w : L = 24 := by omega
        rw [w] at q2
        cases q2
      rw [q1, q2] at eC
      have fu : Fr [(113, 114, none)] s (uset (uset s 114 L b) 113 1 (Int32.ofNat L + 1)) := Fr.uset rfl (Fr.uset rfl (Fr.rf _ _))
      have hu1 : uset (uset s 114 L b) 113 1 (Int32.ofNat L + 1) 113 1 = Int32.ofNat (L + 1) := (uset_eq _ _ _ _).trans (ofn_s L)
      have hub : ∀ k, uset (uset s 114 L b) 113 1 (Int32.ofNat L + 1) 114 k = if k = L then b else s 114 k := fun k => by
        rw [uset_na (by decide)]
        by_cases w : k = L
        · rw [if_pos w, w]; exact uset_eq _ _ _ _
        · rw [if_neg w]; exact uset_nj w
      have eC : F_ctype_2 s b = (_, F_retell_2 (uset (uset s 114 L b) 113 1 (Int32.ofNat L + 1))) := eC
      have R := rtC_2 h2 fu hu1 (by omega)
      rw [eC]
      generalize uset (uset s 114 L b) 113 1 (Int32.ofNat L + 1) = u at *
      generalize F_retell_2 u = c at *
      obtain ⟨R1, R2⟩ := R
      have hc2 : c 124 2 = Int32.ofNat L := (R2 124 2 rfl).trans ((fu 124 2 rfl).trans hL)
      show KU (F_type c 2 b).2 ∧ KC (F_type c 2 b).2
      rw [mty_2 hc2 hc, q1, q2]
      show KU (uset (uset c 125 (24 * 2 + L) b) 124 2 (Int32.ofNat L + 1)) ∧ KC (uset (uset c 125 (24 * 2 + L) b) 124 2 (Int32.ofNat L + 1))
      have ff : Fr [(125, 125, none), (124, 124, some 2)] c (uset (uset c 125 (24 * 2 + L) b) 124 2 (Int32.ofNat L + 1)) := Fr.uset rfl (Fr.uset rfl (Fr.rf _ _))
      refine ⟨KU.put_2 (b := b) h hL l (((fu.ag _ rfl).tr (R2.ag _ rfl)).tr (ff.ag _ rfl)) ?_ ((uset_eq _ _ _ _).trans (ofn_s L)) (fun k => ?_) (fun k => ?_), R1.ag (ff.ag DC rfl)⟩
      · rw [ff 113 1 rfl, R2 113 1 rfl]; exact hu1
      · rw [ff 114 k rfl, R2 114 k rfl]; exact hub k
      · rw [uset_na (by decide)]
        by_cases w : k = 24 * 2 + L
        · rw [if_pos (by omega), w]; exact uset_eq _ _ _ _
        · rw [if_neg (by omega), uset_nj w, R2 125 k rfl]; exact fu 125 k rfl
theorem kcut_2 {s : SG} {L M : Nat} (h : KU s) (h2 : KC s) (hL : s 124 2 = Int32.ofNat L) (hc : L ≤ 24) (hM : M ≤ L) : KU (uset (F_retell_2 (uset s 113 1 (Int32.ofNat M))) 124 2 (Int32.ofNat M)) ∧ KC (uset (F_retell_2 (uset s 113 1 (Int32.ofNat M))) 124 2 (Int32.ofNat M)) ∧ F_retell_2 (uset s 113 1 (Int32.ofNat M)) 124 2 = Int32.ofNat L := by
  have fu : Fr [(113, 114, none)] s (uset s 113 1 (Int32.ofNat M)) := Fr.uset rfl (Fr.rf _ _)
  have hu1 : uset s 113 1 (Int32.ofNat M) 113 1 = Int32.ofNat M := uset_eq _ _ _ _
  have hub : uset s 113 1 (Int32.ofNat M) 114 = s 114 := funext (fun k => uset_na (by decide))
  have R := rtC_2 h2 fu hu1 (by omega)
  generalize uset s 113 1 (Int32.ofNat M) = u at *
  generalize F_retell_2 u = c at *
  obtain ⟨R1, R2⟩ := R
  have ff : Fr [(125, 125, none), (124, 124, some 2)] c (uset c 124 2 (Int32.ofNat M)) := Fr.uset rfl (Fr.rf _ _)
  refine ⟨KU.cut_2 h hL hc hM (((fu.ag _ rfl).tr (R2.ag _ rfl)).tr (ff.ag _ rfl)) ?_ (uset_eq _ _ _ _) (funext (fun k => ?_)) (funext (fun k => ?_)), R1.ag (ff.ag DC rfl), (R2 124 2 rfl).trans ((fu 124 2 rfl).trans hL)⟩
  · rw [ff 113 1 rfl, R2 113 1 rfl]; exact hu1
  · rw [ff 114 k rfl, R2 114 k rfl, hub]
  · rw [uset_na (by decide), R2 125 k rfl]; exact fu 125 k rfl
theorem kwi_2 {s : SG} (h : KU s) (h2 : KC s) : KU (F_wipe (F_cwipe_2 s).2 2).2 ∧ KC (F_wipe (F_cwipe_2 s).2 2).2 := by
  obtain ⟨L, hc, hL⟩ : ∃ L, L ≤ 24 ∧ s 124 2 = Int32.ofNat L := lenO h.2.2 h.1.1.2.2.2
  have K := kcut_2 (M := 0) h h2 hL hc (by omega)
  have eC : F_cwipe_2 s = (s 113 1, F_retell_2 (uset s 113 1 (Int32.ofNat 0))) := rfl
  rw [eC]
  generalize F_retell_2 (uset s 113 1 (Int32.ofNat 0)) = c at *
  have eM : F_wipe c 2 = (c 124 2, uset c 124 2 (Int32.ofNat 0)) := rfl
  show KU (F_wipe c 2).2 ∧ KC (F_wipe c 2).2
  rw [eM]
  exact ⟨K.1, K.2.1⟩
theorem kun_2 {s : SG} (h : KU s) (h2 : KC s) : KU (F_undo (F_cundo_2 s).2 2).2 ∧ KC (F_undo (F_cundo_2 s).2 2).2 := by
  obtain ⟨L, hc, hL⟩ : ∃ L, L ≤ 24 ∧ s 124 2 = Int32.ofNat L := lenO h.2.2 h.1.1.2.2.2
  have hA : s 113 1 = Int32.ofNat L := h.1.2.2.2.1.trans hL
  have eC : F_cundo_2 s = bif m_cmp .ne (Int32.ofNat L) 0 then ((F_retell_2 (uset s 113 1 (Int32.ofNat L - 1))) 113 1, F_retell_2 (uset s 113 1 (Int32.ofNat L - 1))) else ((-3), s) := by
    have e1 : m_cmp .ne (F_isBelow s 2 3) 0 = true := rfl
    dsimp only [F_cundo_2]
    rw [e1, hA]
    rfl
  have eM : ∀ c : SG, c 124 2 = Int32.ofNat L → F_undo c 2 = bif m_cmp .ne (Int32.ofNat L) 0 then ((uset c 124 2 (Int32.ofNat L - 1)) 124 2, uset c 124 2 (Int32.ofNat L - 1)) else ((-3), c) := fun c hcL => by
    have e1 : m_cmp .ne (F_isText c 2) 0 = true := rfl
    have z : (2 : Int32).toNatClampNeg = 2 := rfl
    dsimp only [F_undo]
    rw [e1, z, hcL]
    rfl
  cases L with
  | zero =>
    have eC : F_cundo_2 s = ((-3), s) := eC
    rw [eC]
    show KU (F_undo s 2).2 ∧ KC (F_undo s 2).2
    rw [eM s hL]
    exact ⟨h, h2⟩
  | succ M =>
    have e1 : Int32.ofNat (M + 1) - 1 = Int32.ofNat M := by
      rw [← ofn_s]
      exact Int32.add_sub_cancel _ _
    have e2 : m_cmp .ne (Int32.ofNat (M + 1)) 0 = true := m_ne_iff.mpr (fun w => by
      have w := congrArg Int32.toInt w
      rw [ofn_int (by omega)] at w
      have e : (0 : Int32).toInt = 0 := by decide
      omega)
    have K := kcut_2 (M := M) h h2 hL hc (by omega)
    rw [e1, e2] at eC
    have eC : F_cundo_2 s = (_, F_retell_2 (uset s 113 1 (Int32.ofNat M))) := eC
    rw [eC]
    generalize F_retell_2 (uset s 113 1 (Int32.ofNat M)) = c at *
    show KU (F_undo c 2).2 ∧ KC (F_undo c 2).2
    rw [eM c K.2.2, e1, e2]
    exact ⟨K.1, K.2.1⟩
end
section
/-! the class's calls, whatever the number of the text (printed by wip/u/mk_txt.py) -/
def F_ctype (s : SG) (text : Int32) (b : Int32) : Int32 × SG := if text = 0 then F_ctype_0 s b else if text = 1 then F_ctype_1 s b else if text = 2 then F_ctype_2 s b else ((-2), s)
theorem ux_ctype (s : SG) (text : Int32) (b : Int32) : UP m_X6_type 0 (m_ent 4 [.ref 0, .int text, .int b]) [] s (Qb (F_ctype s text b)) := by
  unfold F_ctype
  by_cases e0 : text = 0
  · rw [if_pos e0, e0]
    exact ux_ctype_0 s b
  by_cases e1 : text = 1
  · rw [if_neg e0, if_pos e1, e1]
    exact ux_ctype_1 s b
  by_cases e2 : text = 2
  · rw [if_neg e0, if_neg e1, if_pos e2, e2]
    exact ux_ctype_2 s b
  rw [if_neg e0, if_neg e1, if_neg e2]
  have hb : bl text 3 = false := by
    cases q : bl text 3 with
    | false => rfl
    | true =>
      rcases bl_3.mp q with w | w | w
      · exact absurd w e0
      · exact absurd w e1
      · exact absurd w e2
  refine UP.stp 2 (i1 := 2) (L1 := [some (.ref 0), some (.int text), some (.int b), none]) (st1 := [.int 3, .int text]) (s1 := s) rfl ?_
  refine UP.cI (M1 := m_X6_isBelow) (as := [.int text, .int 3]) (rest := []) (T := F_isBelow s text 3) rfl rfl (ux_isBelow s text 3) ?_
  refine UP.ifT rfl (by rw [bl_e, hb]; rfl) ?_
  refine UP.stp 1 (i1 := 9) (L1 := [some (.ref 0), some (.int text), some (.int b), none]) (st1 := [.int (-2)]) (s1 := s) rfl ?_
  exact UP.ret (r := some (.int (-2))) rfl ⟨rfl, rfl⟩
def F_cwipe (s : SG) (text : Int32) : Int32 × SG := if text = 0 then F_cwipe_0 s  else if text = 1 then F_cwipe_1 s  else if text = 2 then F_cwipe_2 s  else ((-2), s)
theorem ux_cwipe (s : SG) (text : Int32) : UP m_X6_wipe 0 (m_ent 3 [.ref 0, .int text]) [] s (Qb (F_cwipe s text)) := by
  unfold F_cwipe
  by_cases e0 : text = 0
  · rw [if_pos e0, e0]
    exact ux_cwipe_0 s 
  by_cases e1 : text = 1
  · rw [if_neg e0, if_pos e1, e1]
    exact ux_cwipe_1 s 
  by_cases e2 : text = 2
  · rw [if_neg e0, if_neg e1, if_pos e2, e2]
    exact ux_cwipe_2 s 
  rw [if_neg e0, if_neg e1, if_neg e2]
  have hb : bl text 3 = false := by
    cases q : bl text 3 with
    | false => rfl
    | true =>
      rcases bl_3.mp q with w | w | w
      · exact absurd w e0
      · exact absurd w e1
      · exact absurd w e2
  refine UP.stp 2 (i1 := 2) (L1 := [some (.ref 0), some (.int text), none]) (st1 := [.int 3, .int text]) (s1 := s) rfl ?_
  refine UP.cI (M1 := m_X6_isBelow) (as := [.int text, .int 3]) (rest := []) (T := F_isBelow s text 3) rfl rfl (ux_isBelow s text 3) ?_
  refine UP.ifF rfl (by rw [bl_n, hb]) ?_
  refine UP.stp 1 (i1 := 5) (L1 := [some (.ref 0), some (.int text), none]) (st1 := [.int (-2)]) (s1 := s) rfl ?_
  exact UP.ret (r := some (.int (-2))) rfl ⟨rfl, rfl⟩
def F_cundo (s : SG) (text : Int32) : Int32 × SG := if text = 0 then F_cundo_0 s  else if text = 1 then F_cundo_1 s  else if text = 2 then F_cundo_2 s  else ((-2), s)
theorem ux_cundo (s : SG) (text : Int32) : UP m_X6_undo 0 (m_ent 2 [.ref 0, .int text]) [] s (Qb (F_cundo s text)) := by
  unfold F_cundo
  by_cases e0 : text = 0
  · rw [if_pos e0, e0]
    exact ux_cundo_0 s 
  by_cases e1 : text = 1
  · rw [if_neg e0, if_pos e1, e1]
    exact ux_cundo_1 s 
  by_cases e2 : text = 2
  · rw [if_neg e0, if_neg e1, if_pos e2, e2]
    exact ux_cundo_2 s 
  rw [if_neg e0, if_neg e1, if_neg e2]
  have hb : bl text 3 = false := by
    cases q : bl text 3 with
    | false => rfl
    | true =>
      rcases bl_3.mp q with w | w | w
      · exact absurd w e0
      · exact absurd w e1
      · exact absurd w e2
  refine UP.stp 2 (i1 := 2) (L1 := [some (.ref 0), some (.int text)]) (st1 := [.int 3, .int text]) (s1 := s) rfl ?_
  refine UP.cI (M1 := m_X6_isBelow) (as := [.int text, .int 3]) (rest := []) (T := F_isBelow s text 3) rfl rfl (ux_isBelow s text 3) ?_
  refine UP.ifF rfl (by rw [bl_n, hb]) ?_
  refine UP.stp 1 (i1 := 5) (L1 := [some (.ref 0), some (.int text)]) (st1 := [.int (-2)]) (s1 := s) rfl ?_
  exact UP.ret (r := some (.int (-2))) rfl ⟨rfl, rfl⟩
def F_cfault (s : SG) (text : Int32) : Int32 := if text = 0 then F_cfault_0 s  else if text = 1 then F_cfault_1 s  else if text = 2 then F_cfault_2 s  else (-2)
theorem ux_cfault (s : SG) (text : Int32) : UP m_X6_fault 0 (m_ent 2 [.ref 0, .int text]) [] s (Qi s (F_cfault s text)) := by
  unfold F_cfault
  by_cases e0 : text = 0
  · rw [if_pos e0, e0]
    exact ux_cfault_0 s 
  by_cases e1 : text = 1
  · rw [if_neg e0, if_pos e1, e1]
    exact ux_cfault_1 s 
  by_cases e2 : text = 2
  · rw [if_neg e0, if_neg e1, if_pos e2, e2]
    exact ux_cfault_2 s 
  rw [if_neg e0, if_neg e1, if_neg e2]
  have hb : bl text 3 = false := by
    cases q : bl text 3 with
    | false => rfl
    | true =>
      rcases bl_3.mp q with w | w | w
      · exact absurd w e0
      · exact absurd w e1
      · exact absurd w e2
  refine UP.stp 2 (i1 := 2) (L1 := [some (.ref 0), some (.int text)]) (st1 := [.int 3, .int text]) (s1 := s) rfl ?_
  refine UP.cI (M1 := m_X6_isBelow) (as := [.int text, .int 3]) (rest := []) (T := F_isBelow s text 3) rfl rfl (ux_isBelow s text 3) ?_
  refine UP.ifF rfl (by rw [bl_n, hb]) ?_
  refine UP.stp 1 (i1 := 5) (L1 := [some (.ref 0), some (.int text)]) (st1 := [.int (-2)]) (s1 := s) rfl ?_
  exact UP.ret (r := some (.int (-2))) rfl ⟨rfl, rfl⟩
theorem K_type {s : SG} (text : Int32) (b : Int32) (h : KU s) (h2 : KC s) : KU (F_type (F_ctype s text b).2 text b).2 ∧ KC (F_type (F_ctype s text b).2 text b).2 := by
  unfold F_ctype
  by_cases e0 : text = 0
  · rw [if_pos e0, e0]
    exact kty_0 b h h2
  by_cases e1 : text = 1
  · rw [if_neg e0, if_pos e1, e1]
    exact kty_1 b h h2
  by_cases e2 : text = 2
  · rw [if_neg e0, if_neg e1, if_pos e2, e2]
    exact kty_2 b h h2
  rw [if_neg e0, if_neg e1, if_neg e2]
  have hb : bl text 3 = false := by
    cases q : bl text 3 with
    | false => rfl
    | true =>
      rcases bl_3.mp q with w | w | w
      · exact absurd w e0
      · exact absurd w e1
      · exact absurd w e2
  have e : m_cmp .eq (F_isText s text) 0 = true := by rw [show F_isText s text = F_in s text 0 2 from rfl, in_e s text 2 3 rfl, hb]; rfl
  have eM : F_type s text b = ((-2), s) := by
    dsimp only [F_type]
    rw [e]
    rfl
  show KU (F_type s text b).2 ∧ KC (F_type s text b).2
  rw [eM]
  exact ⟨h, h2⟩
theorem K_wipe {s : SG} (text : Int32) (h : KU s) (h2 : KC s) : KU (F_wipe (F_cwipe s text).2 text).2 ∧ KC (F_wipe (F_cwipe s text).2 text).2 := by
  unfold F_cwipe
  by_cases e0 : text = 0
  · rw [if_pos e0, e0]
    exact kwi_0 h h2
  by_cases e1 : text = 1
  · rw [if_neg e0, if_pos e1, e1]
    exact kwi_1 h h2
  by_cases e2 : text = 2
  · rw [if_neg e0, if_neg e1, if_pos e2, e2]
    exact kwi_2 h h2
  rw [if_neg e0, if_neg e1, if_neg e2]
  have hb : bl text 3 = false := by
    cases q : bl text 3 with
    | false => rfl
    | true =>
      rcases bl_3.mp q with w | w | w
      · exact absurd w e0
      · exact absurd w e1
      · exact absurd w e2
  have e : m_cmp .ne (F_isText s text) 0 = false := by rw [show F_isText s text = F_in s text 0 2 from rfl, in_n s text 2 3 rfl, hb]
  have eM : F_wipe s text = ((-2), s) := by
    dsimp only [F_wipe]
    rw [e]
    rfl
  show KU (F_wipe s text).2 ∧ KC (F_wipe s text).2
  rw [eM]
  exact ⟨h, h2⟩
theorem K_undo {s : SG} (text : Int32) (h : KU s) (h2 : KC s) : KU (F_undo (F_cundo s text).2 text).2 ∧ KC (F_undo (F_cundo s text).2 text).2 := by
  unfold F_cundo
  by_cases e0 : text = 0
  · rw [if_pos e0, e0]
    exact kun_0 h h2
  by_cases e1 : text = 1
  · rw [if_neg e0, if_pos e1, e1]
    exact kun_1 h h2
  by_cases e2 : text = 2
  · rw [if_neg e0, if_neg e1, if_pos e2, e2]
    exact kun_2 h h2
  rw [if_neg e0, if_neg e1, if_neg e2]
  have hb : bl text 3 = false := by
    cases q : bl text 3 with
    | false => rfl
    | true =>
      rcases bl_3.mp q with w | w | w
      · exact absurd w e0
      · exact absurd w e1
      · exact absurd w e2
  have e : m_cmp .ne (F_isText s text) 0 = false := by rw [show F_isText s text = F_in s text 0 2 from rfl, in_n s text 2 3 rfl, hb]
  have eM : F_undo s text = ((-2), s) := by
    dsimp only [F_undo]
    rw [e]
    rfl
  show KU (F_undo s text).2 ∧ KC (F_undo s text).2
  rw [eM]
  exact ⟨h, h2⟩
end
section
/-! trips of like inputs are alike -/
def eqJ (J K : TI) : Prop := jn J = jn K ∧ (∀ k, k < jn J → jso J k = jso K k ∧ jpo J k = jpo K k ∧ jse J k = jse K k) ∧ (∀ t, t < 24 → jra J t = jra K t ∧ jru J t = jru K t ∧ jbe J t = jbe K t) ∧ jst J = jst K ∧ jho J = jho K
def eqT (n : Nat) (x y : TS) : Prop := sme x = sme y ∧ spl' x = spl' y ∧ sth x = sth y ∧ ∀ k, k < n → smn x k = smn y k ∧ ssm x k = ssm y k
theorem eqJ.symm {J K : TI} (h : eqJ J K) : eqJ K J := ⟨h.1.symm, fun k hk => by
    obtain ⟨a, b, c⟩ := h.2.1 k (by rw [h.1]; exact hk)
    exact ⟨a.symm, b.symm, c.symm⟩, fun t ht => by
    obtain ⟨a, b, c⟩ := h.2.2.1 t ht
    exact ⟨a.symm, b.symm, c.symm⟩, h.2.2.2.1.symm, h.2.2.2.2.symm⟩
section CNG
variable {J K : TI} {t k : Nat} {x y : TS}
theorem itr_z {α : Type} (f : Nat → α → α) (lo : Nat) (a : α) : itr f lo 0 a = a := rfl
theorem pon_c (h : eqJ J K) (ht : t < 24) (e : eqT (jn J) x y) (hk : k < jn J) : pon J t x k = pon K t y k := by
  unfold pon
  rw [e.2.2.1, (h.2.2.1 t ht).1, (h.2.2.1 t ht).2.2, (h.2.1 k hk).2.2]
theorem pul_c (h : eqJ J K) (ht : t < 24) (e : eqT (jn J) x y) (hk : k < jn J) : pul J t x k = pul K t y k := by
  unfold pul
  rw [pon_c h ht e hk, (h.2.1 k hk).1, (h.2.1 k hk).2.1, (e.2.2.2 k hk).1]
theorem lrs_c (h : eqJ J K) (ht : t < 24) (e : eqT (jn J) x y) : ∀ i, i ≤ jn J → lrs J t x i = lrs K t y i := by
  intro i
  induction i with
  | zero =>
    intro _
    unfold lrs
    rw [itr_z, itr_z]
  | succ i ih =>
    intro hi
    have e1 : lrs J t x (i + 1) = lstep J t x i (lrs J t x i) := itr_0 _ _ _
    have e2 : lrs K t y (i + 1) = lstep K t y i (lrs K t y i) := itr_0 _ _ _
    rw [e1, e2, ih (by omega)]
    unfold lstep
    rw [pul_c h ht e (by omega), (h.2.1 i (by omega)).2.2]
theorem lrsn_c (h : eqJ J K) (ht : t < 24) (e : eqT (jn J) x y) : lrs J t x (jn J) = lrs K t y (jn K) := by
  rw [lrs_c h ht e _ (Nat.le_refl _), h.1]
theorem beh_c (h : eqJ J K) (ht : t < 24) (e : eqT (jn J) x y) : beh J t x = beh K t y := by
  unfold beh
  rw [lrsn_c h ht e, e.2.1, (h.2.2.1 t ht).1, (h.2.2.1 t ht).2.1, (h.2.2.1 t ht).2.2]
theorem way_c (h : eqJ J K) (ht : t < 24) (e : eqT (jn J) x y) : way J t x = way K t y := by
  unfold way
  rw [lrsn_c h ht e, (h.2.2.1 t ht).1, h.2.2.2.1, (h.2.2.1 t ht).2.2]
theorem grd_c (h : eqJ J K) (ht : t < 24) (e : eqT (jn J) x y) : grd J t x = grd K t y := by
  unfold grd
  rw [beh_c h ht e]
theorem me_c (h : eqJ J K) (ht : t < 24) (e : eqT (jn J) x y) : me' J t x = me' K t y := by
  unfold me'
  rw [grd_c h ht e, way_c h ht e, e.1]
theorem pl_c (h : eqJ J K) (ht : t < 24) (e : eqT (jn J) x y) : pl' J t x = pl' K t y := by
  unfold pl'
  rw [beh_c h ht e]
theorem gr_c (h : eqJ J K) (ht : t < 24) (e : eqT (jn J) x y) : gr' J t x = gr' K t y := by
  unfold gr'
  rw [grd_c h ht e, e.2.2.1]
theorem tst_c (h : eqJ J K) (ht : t < 24) (e : eqT (jn J) x y) : eqT (jn J) (tst J t x) (tst K t y) := by
  refine ⟨?_, ?_, ?_, fun k hk => ⟨?_, ?_⟩⟩
  · show (bif m_cmp .ne (sth x) (-1) then sme x else me' J t x) = (bif m_cmp .ne (sth y) (-1) then sme y else me' K t y)
    rw [me_c h ht e, e.2.2.1, e.1]
  · show (bif m_cmp .ne (sth x) (-1) then spl' x else pl' J t x) = (bif m_cmp .ne (sth y) (-1) then spl' y else pl' K t y)
    rw [pl_c h ht e, e.2.2.1, e.2.1]
  · show (bif m_cmp .ne (sth x) (-1) then sth x else (bif m_cmp .lt (me' J t x) (jho J) then -1 else Int32.ofNat t)) = (bif m_cmp .ne (sth y) (-1) then sth y else (bif m_cmp .lt (me' K t y) (jho K) then -1 else Int32.ofNat t))
    rw [me_c h ht e, e.2.2.1, h.2.2.2.2]
  · show mn' J t x k = mn' K t y k
    unfold mn'
    rw [pon_c h ht e hk, (e.2.2.2 k hk).1]
  · show sm' J t x k = sm' K t y k
    unfold sm'
    rw [pon_c h ht e hk, pul_c h ht e hk, (e.2.2.2 k hk).2]
theorem trip_c (h : eqJ J K) : ∀ t, t ≤ 24 → eqT (jn J) (trip J t) (trip K t)
  | 0, _ => ⟨rfl, rfl, rfl, fun _ _ => ⟨rfl, rfl⟩⟩
  | t + 1, ht => tst_c h (by omega) (trip_c h t (by omega))
theorem gr_t (h : eqJ J K) (ht : t < 24) : gr' J t (trip J t) = gr' K t (trip K t) := gr_c h ht (trip_c h t (by omega))
theorem lrs_t (h : eqJ J K) (ht : t < 24) : lrs J t (trip J t) (jn J) = lrs K t (trip K t) (jn K) := lrsn_c h ht (trip_c h t (by omega))
theorem pul_t (h : eqJ J K) (ht : t < 24) (hk : k < jn J) : pul J t (trip J t) k = pul K t (trip K t) k := pul_c h ht (trip_c h t (by omega)) hk
theorem gma_0 (J : TI) : gma J 0 = 0 := by
  unfold gma
  exact itr_z _ _ _
theorem gma_c (h : eqJ J K) (i : Nat) : i ≤ 24 → gma J i = gma K i := by
  induction i with
  | zero =>
    intro _
    rw [gma_0, gma_0]
  | succ i ih =>
    intro hi
    have g := gr_t (J := J) (K := K) (t := i) h (by omega)
    have e1 := gma_s J i
    have e2 := gma_s K i
    have e3 := ih (by omega)
    generalize gr' J i (trip J i) = p at *
    generalize gr' K i (trip K i) = q at *
    generalize gma J (i + 1) = a at *
    generalize gma K (i + 1) = b at *
    generalize gma J i = c at *
    generalize gma K i = d at *
    subst g
    subst e3
    exact e1.trans e2.symm
theorem gfi_0 (J : TI) : gfi J 0 = (-1) := by
  unfold gfi
  exact itr_z _ _ _
theorem gfi_c (h : eqJ J K) (i : Nat) : i ≤ 24 → gfi J i = gfi K i := by
  induction i with
  | zero =>
    intro _
    rw [gfi_0, gfi_0]
  | succ i ih =>
    intro hi
    have g := gr_t (J := J) (K := K) (t := i) h (by omega)
    have e1 := gfi_s J i
    have e2 := gfi_s K i
    have e3 := ih (by omega)
    generalize gr' J i (trip J i) = p at *
    generalize gr' K i (trip K i) = q at *
    generalize gfi J (i + 1) = a at *
    generalize gfi K (i + 1) = b at *
    generalize gfi J i = c at *
    generalize gfi K i = d at *
    subst g
    subst e3
    exact e1.trans e2.symm
theorem far_0 (J : TI) : far J 0 = 0 := by
  unfold far
  exact itr_z _ _ _
theorem far_c (h : eqJ J K) (i : Nat) : i ≤ 24 → far J i = far K i := by
  induction i with
  | zero =>
    intro _
    rw [far_0, far_0]
  | succ i ih =>
    intro hi
    have e : spl' (tst J i (trip J i)) = spl' (tst K i (trip K i)) := (trip_c h (i + 1) hi).2.1
    rw [far_s, far_s, ih (by omega), e]
theorem ov_c (h : eqJ J K) (o : ovJ K) : ovJ J := fun t ht => by
  rw [lrs_t h ht, (h.2.2.1 t ht).1]
  exact o t ht
end CNG
end
section
/-! narrower frames (printed by wip/u/mk_fr.py) -/
def W_rowOtherN : List (Nat × Nat × Option Nat) := [(59, 63, none), (65, 88, none), (89, 95, none), (58, 58, some 8), (53, 57, none)]
set_option maxRecDepth 20000 in
set_option maxHeartbeats 200000 in
theorem fr_rowOtherN (s : SG)   : Fr W_rowOtherN s (F_rowOther s) := by dsimp only [F_rowOther]; exact (Fr.tr (s1 := s) (Fr.rf _ _) (Fr.wk (W2 := W_rowOtherN) (fr_row_b s 255) (by rfl)))
def W_metresSwappedN : List (Nat × Nat × Option Nat) := [(59, 63, none), (65, 88, none), (89, 95, none), (58, 58, some 8), (53, 57, none)]
set_option maxRecDepth 20000 in
set_option maxHeartbeats 200000 in
theorem fr_metresSwappedN (s : SG) (a : Int32) (b : Int32)  : Fr W_metresSwappedN s (F_metresSwapped s a b).2 := by dsimp only [F_metresSwapped]; exact (let z1 : SG := F_take s ; (let v2 : Int32 := z1 11 b.toNatClampNeg; (let v3 : Int32 := z1 12 b.toNatClampNeg; (let v4 : Int32 := z1 11 a.toNatClampNeg; (let v5 : Int32 := z1 12 a.toNatClampNeg; (Fr.tr (s1 := (uset (uset (uset (uset z1 54 a.toNatClampNeg v2) 55 a.toNatClampNeg v3) 54 b.toNatClampNeg v4) 55 b.toNatClampNeg v5)) (Fr.uset (s1 := (uset (uset (uset z1 54 a.toNatClampNeg v2) 55 a.toNatClampNeg v3) 54 b.toNatClampNeg v4)) (a := 55) (j := b.toNatClampNeg) (x := v5) (by rfl) (Fr.uset (s1 := (uset (uset z1 54 a.toNatClampNeg v2) 55 a.toNatClampNeg v3)) (a := 54) (j := b.toNatClampNeg) (x := v4) (by rfl) (Fr.uset (s1 := (uset z1 54 a.toNatClampNeg v2)) (a := 55) (j := a.toNatClampNeg) (x := v3) (by rfl) (Fr.uset (s1 := z1) (a := 54) (j := a.toNatClampNeg) (x := v2) (by rfl) (Fr.tr (s1 := s) (Fr.rf _ _) (Fr.wk (W2 := W_metresSwappedN) (fr_take s ) (by rfl))))))) (Fr.wk (W2 := W_metresSwappedN) (fr_rowOtherN (uset (uset (uset (uset z1 54 a.toNatClampNeg v2) 55 a.toNatClampNeg v3) 54 b.toNatClampNeg v4) 55 b.toNatClampNeg v5) ) (by rfl))))))))
def W_cswapN : List (Nat × Nat × Option Nat) := [(59, 63, none), (65, 88, none), (89, 95, none), (58, 58, some 8), (53, 57, none)]
set_option maxRecDepth 20000 in
set_option maxHeartbeats 200000 in
theorem fr_B_cswap_23N (i4 : Nat) (i5 : Nat) (a5 : SG × Int32 × Int32 × Int32)   : Fr W_cswapN a5.1 ((B_cswap_23 i4) i5 a5).1 := by dsimp only [B_cswap_23]; exact (Fr.tr (s1 := a5.1) (Fr.rf _ _) (Fr.wk (W2 := W_cswapN) (fr_metresSwappedN a5.1 (Int32.ofNat i4) (Int32.ofNat i5)) (by rfl)))
set_option maxRecDepth 20000 in
set_option maxHeartbeats 200000 in
theorem fr_B_cswap_14N  (i4 : Nat) (a4 : SG × Int32 × Int32 × Int32)   : Fr W_cswapN a4.1 ((B_cswap_14) i4 a4).1 := by dsimp only [B_cswap_14]; exact (Fr.itr (W := W_cswapN) (m := (fun x : SG × Int32 × Int32 × Int32 => x.1)) (f := (B_cswap_23 i4)) (fun ii aa => Fr.wk (W2 := W_cswapN) (fr_B_cswap_23N i4 ii aa ) (by rfl)) ((a4.1 10 0).toNatClampNeg - (i4 + 1)) (i4 + 1) (a4.1, a4.2.1, a4.2.2.1, a4.2.2.2) (Fr.rf _ _))
set_option maxRecDepth 20000 in
set_option maxHeartbeats 200000 in
theorem fr_cswapN (s : SG) (what : Int32)  : Fr W_cswapN s (F_cswap s what).2 := by dsimp only [F_cswap]; exact (Fr.bifp (b := m_cmp .ne (F_isBelow s what 3) 0) (x := let z4 := itr (B_cswap_14) 0 ((s 10 0).toNatClampNeg) (s, (-1), (-1), (-1)); bif m_cmp .ne what 0 then (let v10 := bif m_cmp .ne what 1 then z4.2.2.2 else z4.2.2.1; (v10, z4.1)) else ((z4.2.1, z4.1))) (y := ((-2), s)) (fun x : Int32 × SG => x.2) (by (try dsimp only); exact (let z4 : SG × Int32 × Int32 × Int32 := itr (B_cswap_14) 0 ((s 10 0).toNatClampNeg) (s, (-1), (-1), (-1)); (Fr.bifp (b := m_cmp .ne what 0) (x := let v10 := bif m_cmp .ne what 1 then z4.2.2.2 else z4.2.2.1; (v10, z4.1)) (y := (z4.2.1, z4.1)) (fun x : Int32 × SG => x.2) (by (try dsimp only); exact (Fr.itr (W := W_cswapN) (m := (fun x : SG × Int32 × Int32 × Int32 => x.1)) (f := (B_cswap_14)) (fun ii aa => Fr.wk (W2 := W_cswapN) (fr_B_cswap_14N  ii aa ) (by rfl)) ((s 10 0).toNatClampNeg) 0 (s, (-1), (-1), (-1)) (Fr.rf _ _))) (by (try dsimp only); exact (Fr.itr (W := W_cswapN) (m := (fun x : SG × Int32 × Int32 × Int32 => x.1)) (f := (B_cswap_14)) (fun ii aa => Fr.wk (W2 := W_cswapN) (fr_B_cswap_14N  ii aa ) (by rfl)) ((s 10 0).toNatClampNeg) 0 (s, (-1), (-1), (-1)) (Fr.rf _ _)))))) (by (try dsimp only); exact (Fr.rf _ _)))
def W_csteerN : List (Nat × Nat × Option Nat) := [(59, 63, none), (65, 88, none), (89, 95, none), (58, 58, some 8), (53, 57, none)]
set_option maxRecDepth 20000 in
set_option maxHeartbeats 200000 in
theorem fr_B_csteer_21N (minute : Int32) (i8 : Nat) (a8 : SG × Int32 × Int32)  (hi8 : i8 < 3) : Fr W_csteerN a8.1 ((B_csteer_21 minute) i8 a8).1 := by dsimp only [B_csteer_21]; exact (Fr.tr (s1 := (uset a8.1 57 minute.toNatClampNeg (Int32.ofNat i8))) (Fr.uset (s1 := a8.1) (a := 57) (j := minute.toNatClampNeg) (x := Int32.ofNat i8) (by rfl) (Fr.rf _ _)) (Fr.wk (W2 := W_csteerN) (fr_rowOtherN (uset a8.1 57 minute.toNatClampNeg (Int32.ofNat i8)) ) (by rfl)))
set_option maxRecDepth 20000 in
set_option maxHeartbeats 200000 in
theorem fr_csteerN (s : SG) (minute : Int32) (what : Int32)  : Fr W_csteerN s (F_csteer s minute what).2 := by dsimp only [F_csteer]; exact (Fr.bifp (b := m_cmp .eq (F_isBelow s minute 24) 0) (x := ((-2), s)) (y := bif m_cmp .ne (F_isBelow s what 2) 0 then (let z7 := F_take s ; let z8 := itr (B_csteer_21 minute) 0 3 (z7, (-1), 20); let v13 := bif m_cmp .ne what 0 then z8.2.2 else z8.2.1; (v13, z8.1)) else (((-2), s))) (fun x : Int32 × SG => x.2) (by (try dsimp only); exact (Fr.rf _ _)) (by (try dsimp only); exact (Fr.bifp (b := m_cmp .ne (F_isBelow s what 2) 0) (x := let z7 := F_take s ; let z8 := itr (B_csteer_21 minute) 0 3 (z7, (-1), 20); let v13 := bif m_cmp .ne what 0 then z8.2.2 else z8.2.1; (v13, z8.1)) (y := ((-2), s)) (fun x : Int32 × SG => x.2) (by (try dsimp only); exact (let z7 : SG := F_take s ; (frItrB (W := W_csteerN) (m := (fun x : SG × Int32 × Int32 => x.1)) (f := (B_csteer_21 minute)) 3 (fun ii aa hh => Fr.wk (W2 := W_csteerN) (fr_B_csteer_21N minute ii aa  hh) (by rfl)) 3 0 (z7, (-1), 20) (by omega) (Fr.tr (s1 := s) (Fr.rf _ _) (Fr.wk (W2 := W_csteerN) (fr_take s ) (by rfl)))))) (by (try dsimp only); exact (Fr.rf _ _)))))
def W_cstrokeN : List (Nat × Nat × Option Nat) := [(59, 63, none), (65, 88, none), (89, 95, none), (58, 58, some 8), (53, 57, none)]
set_option maxRecDepth 20000 in
set_option maxHeartbeats 200000 in
theorem fr_B_cstroke_21N (minute : Int32) (i8 : Nat) (a8 : SG × Int32 × Int32)  (hi8 : i8 < 4) : Fr W_cstrokeN a8.1 ((B_cstroke_21 minute) i8 a8).1 := by dsimp only [B_cstroke_21]; exact (Fr.tr (s1 := (uset a8.1 56 minute.toNatClampNeg (Int32.ofNat i8))) (Fr.uset (s1 := a8.1) (a := 56) (j := minute.toNatClampNeg) (x := Int32.ofNat i8) (by rfl) (Fr.rf _ _)) (Fr.wk (W2 := W_cstrokeN) (fr_rowOtherN (uset a8.1 56 minute.toNatClampNeg (Int32.ofNat i8)) ) (by rfl)))
set_option maxRecDepth 20000 in
set_option maxHeartbeats 200000 in
theorem fr_cstrokeN (s : SG) (minute : Int32) (what : Int32)  : Fr W_cstrokeN s (F_cstroke s minute what).2 := by dsimp only [F_cstroke]; exact (Fr.bifp (b := m_cmp .eq (F_isBelow s minute 24) 0) (x := ((-2), s)) (y := bif m_cmp .ne (F_isBelow s what 2) 0 then (let z7 := F_take s ; let z8 := itr (B_cstroke_21 minute) 0 4 (z7, (-1), (-1)); let v12 := bif m_cmp .ne what 0 then z8.2.2 else z8.2.1; (v12, z8.1)) else (((-2), s))) (fun x : Int32 × SG => x.2) (by (try dsimp only); exact (Fr.rf _ _)) (by (try dsimp only); exact (Fr.bifp (b := m_cmp .ne (F_isBelow s what 2) 0) (x := let z7 := F_take s ; let z8 := itr (B_cstroke_21 minute) 0 4 (z7, (-1), (-1)); let v12 := bif m_cmp .ne what 0 then z8.2.2 else z8.2.1; (v12, z8.1)) (y := ((-2), s)) (fun x : Int32 × SG => x.2) (by (try dsimp only); exact (let z7 : SG := F_take s ; (frItrB (W := W_cstrokeN) (m := (fun x : SG × Int32 × Int32 => x.1)) (f := (B_cstroke_21 minute)) 4 (fun ii aa hh => Fr.wk (W2 := W_cstrokeN) (fr_B_cstroke_21N minute ii aa  hh) (by rfl)) 4 0 (z7, (-1), (-1)) (by omega) (Fr.tr (s1 := s) (Fr.rf _ _) (Fr.wk (W2 := W_cstrokeN) (fr_take s ) (by rfl)))))) (by (try dsimp only); exact (Fr.rf _ _)))))
def W_cyearsN : List (Nat × Nat × Option Nat) := [(59, 63, none), (65, 88, none), (89, 95, none), (58, 58, some 8), (53, 57, none)]
set_option maxRecDepth 20000 in
set_option maxHeartbeats 200000 in
theorem fr_B_cyears_19N (n : Int32) (i8 : Nat) (a8 : SG × Int32)  (hi8 : i8 < 24) : Fr W_cyearsN a8.1 ((B_cyears_19 n) i8 a8).1 := by dsimp only [B_cyears_19]; exact (let v9 : Int32 := (1103515245 * a8.2) + 12345; (let v10 : Int32 := bif m_cmp .ge (Int32.ofNat i8) n then (2 : Int32) else ((Int32.toUInt32 v9 >>> (Int32.toUInt32 16 &&& Int32.toUInt32 31)).toInt32) - ((Int32.toUInt32 v9 >>> (Int32.toUInt32 16 &&& Int32.toUInt32 31)).toInt32) / 4 * 4; (Fr.uset (s1 := a8.1) (a := 56) (j := i8) (x := v10) (by rfl) (Fr.rf _ _))))
set_option maxRecDepth 20000 in
set_option maxHeartbeats 200000 in
theorem fr_cyearsN (s : SG) (seed : Int32) (n : Int32) (what : Int32)  : Fr W_cyearsN s (F_cyears s seed n what).2 := by dsimp only [F_cyears]; exact (Fr.bifp (b := m_cmp .eq (F_isBelow s n 25) 0) (x := ((-2), s)) (y := bif m_cmp .ne (F_isBelow s what 2) 0 then (let z7 := F_take s ; let z8 := itr (B_cyears_19 n) 0 24 (z7, seed); let z11 := F_rowOther z8.1 ; let v12 := bif m_cmp .ne what 0 then z11 60 23 else z11 59 23; (v12, z11)) else (((-2), s))) (fun x : Int32 × SG => x.2) (by (try dsimp only); exact (Fr.rf _ _)) (by (try dsimp only); exact (Fr.bifp (b := m_cmp .ne (F_isBelow s what 2) 0) (x := let z7 := F_take s ; let z8 := itr (B_cyears_19 n) 0 24 (z7, seed); let z11 := F_rowOther z8.1 ; let v12 := bif m_cmp .ne what 0 then z11 60 23 else z11 59 23; (v12, z11)) (y := ((-2), s)) (fun x : Int32 × SG => x.2) (by (try dsimp only); exact (let z7 : SG := F_take s ; (let z8 : SG × Int32 := itr (B_cyears_19 n) 0 24 (z7, seed); (Fr.tr (s1 := z8.1) (frItrB (W := W_cyearsN) (m := (fun x : SG × Int32 => x.1)) (f := (B_cyears_19 n)) 24 (fun ii aa hh => Fr.wk (W2 := W_cyearsN) (fr_B_cyears_19N n ii aa  hh) (by rfl)) 24 0 (z7, seed) (by omega) (Fr.tr (s1 := s) (Fr.rf _ _) (Fr.wk (W2 := W_cyearsN) (fr_take s ) (by rfl)))) (Fr.wk (W2 := W_cyearsN) (fr_rowOtherN z8.1 ) (by rfl)))))) (by (try dsimp only); exact (Fr.rf _ _)))))
def W_cneverN : List (Nat × Nat × Option Nat) := [(59, 63, none), (65, 88, none), (89, 95, none), (58, 58, some 8), (53, 57, none)]
set_option maxRecDepth 20000 in
set_option maxHeartbeats 200000 in
theorem fr_B_cnever_4N  (i1 : Nat) (a1 : SG × Int32)   : Fr W_cneverN a1.1 ((B_cnever_4) i1 a1).1 := by dsimp only [B_cnever_4]; exact (Fr.tr (s1 := a1.1) (Fr.rf _ _) (Fr.wk (W2 := W_cneverN) (fr_row_c a1.1 ((255 : Int32) &&& ((1 <<< ((Int32.ofNat i1) &&& 31)) ^^^ (-1 : Int32)))) (by rfl)))
set_option maxRecDepth 20000 in
set_option maxHeartbeats 200000 in
theorem fr_cneverN (s : SG)   : Fr W_cneverN s (F_cnever s).2 := by dsimp only [F_cnever]; exact (Fr.itr (W := W_cneverN) (m := (fun x : SG × Int32 => x.1)) (f := (B_cnever_4)) (fun ii aa => Fr.wk (W2 := W_cneverN) (fr_B_cnever_4N  ii aa ) (by rfl)) ((s 2 3).toNatClampNeg) 0 (s, 0) (Fr.rf _ _))
def W_possiblePowersN : List (Nat × Nat × Option Nat) := [(59, 63, none), (65, 88, none), (89, 95, none), (58, 58, some 8), (53, 57, none), (98, 107, none)]
set_option maxRecDepth 20000 in
set_option maxHeartbeats 200000 in
theorem fr_B_possiblePowers_9N (seat : Int32) (i2 : Nat) (a2 : SG × Int32)  (hi2 : i2 < 10) : Fr W_possiblePowersN a2.1 ((B_possiblePowers_9 seat) i2 a2).1 := by dsimp only [B_possiblePowers_9]; exact (let z3 : SG := F_rowOther (uset a2.1 55 seat.toNatClampNeg (Int32.ofNat i2)) ; (Fr.bifp (b := m_cmp .eq (F_agreeWith z3) 0) (x := (a2.2, z3)) (y := ((a2.2 ||| (1 <<< ((Int32.ofNat i2) &&& 31))), (mvs z3 60 0 (98 + i2) 0 24))) (fun x : Int32 × SG => x.2) (by (try dsimp only); exact (Fr.tr (s1 := (uset a2.1 55 seat.toNatClampNeg (Int32.ofNat i2))) (Fr.uset (s1 := a2.1) (a := 55) (j := seat.toNatClampNeg) (x := Int32.ofNat i2) (by rfl) (Fr.rf _ _)) (Fr.wk (W2 := W_possiblePowersN) (fr_rowOtherN (uset a2.1 55 seat.toNatClampNeg (Int32.ofNat i2)) ) (by rfl)))) (by (try dsimp only); exact (frMvsR 98 107 (by omega) (by omega) rfl (Fr.tr (s1 := (uset a2.1 55 seat.toNatClampNeg (Int32.ofNat i2))) (Fr.uset (s1 := a2.1) (a := 55) (j := seat.toNatClampNeg) (x := Int32.ofNat i2) (by rfl) (Fr.rf _ _)) (Fr.wk (W2 := W_possiblePowersN) (fr_rowOtherN (uset a2.1 55 seat.toNatClampNeg (Int32.ofNat i2)) ) (by rfl)))))))
set_option maxRecDepth 20000 in
set_option maxHeartbeats 200000 in
theorem fr_possiblePowersN (s : SG) (seat : Int32)  : Fr W_possiblePowersN s (F_possiblePowers s seat).2 := by dsimp only [F_possiblePowers]; exact (let z1 : SG := F_take s ; (frItrB (W := W_possiblePowersN) (m := (fun x : SG × Int32 => x.1)) (f := (B_possiblePowers_9 seat)) 10 (fun ii aa hh => Fr.wk (W2 := W_possiblePowersN) (fr_B_possiblePowers_9N seat ii aa  hh) (by rfl)) (10 - 1) 1 (z1, 0) (by omega) (Fr.tr (s1 := s) (Fr.rf _ _) (Fr.wk (W2 := W_possiblePowersN) (fr_take s ) (by rfl)))))
def W_possibleSortsN : List (Nat × Nat × Option Nat) := [(59, 63, none), (65, 88, none), (89, 95, none), (58, 58, some 8), (53, 57, none)]
set_option maxRecDepth 20000 in
set_option maxHeartbeats 200000 in
theorem fr_B_possibleSorts_9N (seat : Int32) (i2 : Nat) (a2 : SG × Int32)  (hi2 : i2 < 3) : Fr W_possibleSortsN a2.1 ((B_possibleSorts_9 seat) i2 a2).1 := by dsimp only [B_possibleSorts_9]; exact (Fr.tr (s1 := (uset a2.1 54 seat.toNatClampNeg (Int32.ofNat i2))) (Fr.uset (s1 := a2.1) (a := 54) (j := seat.toNatClampNeg) (x := Int32.ofNat i2) (by rfl) (Fr.rf _ _)) (Fr.wk (W2 := W_possibleSortsN) (fr_rowOtherN (uset a2.1 54 seat.toNatClampNeg (Int32.ofNat i2)) ) (by rfl)))
set_option maxRecDepth 20000 in
set_option maxHeartbeats 200000 in
theorem fr_possibleSortsN (s : SG) (seat : Int32)  : Fr W_possibleSortsN s (F_possibleSorts s seat).2 := by dsimp only [F_possibleSorts]; exact (let z1 : SG := F_take s ; (frItrB (W := W_possibleSortsN) (m := (fun x : SG × Int32 => x.1)) (f := (B_possibleSorts_9 seat)) 3 (fun ii aa hh => Fr.wk (W2 := W_possibleSortsN) (fr_B_possibleSorts_9N seat ii aa  hh) (by rfl)) 3 0 (z1, 0) (by omega) (Fr.tr (s1 := s) (Fr.rf _ _) (Fr.wk (W2 := W_possibleSortsN) (fr_take s ) (by rfl)))))
def W_cwasN : List (Nat × Nat × Option Nat) := [(59, 63, none), (65, 88, none), (89, 95, none), (58, 58, some 8), (53, 57, none), (98, 107, none)]
set_option maxRecDepth 20000 in
set_option maxHeartbeats 200000 in
theorem fr_cwasN (s : SG) (seat : Int32) (what : Int32)  : Fr W_cwasN s (F_cwas s seat what).2 := by dsimp only [F_cwas]; exact (Fr.bifp (b := m_cmp .eq (F_cisRower s seat) 0) (x := ((-2), s)) (y := bif m_cmp .ne (F_isBelow s what 2) 0 then (let w9 := bif m_cmp .ne what 0 then (F_possibleSorts s seat) else (F_possiblePowers s seat); w9) else (((-2), s))) (fun x : Int32 × SG => x.2) (by (try dsimp only); exact (Fr.rf _ _)) (by (try dsimp only); exact (Fr.bifp (b := m_cmp .ne (F_isBelow s what 2) 0) (x := let w9 := bif m_cmp .ne what 0 then (F_possibleSorts s seat) else (F_possiblePowers s seat); w9) (y := ((-2), s)) (fun x : Int32 × SG => x.2) (by (try dsimp only); exact (Fr.bifp (b := m_cmp .ne what 0) (x := (F_possibleSorts s seat)) (y := (F_possiblePowers s seat)) (fun x : Int32 × SG => x.2) (by (try dsimp only); exact (Fr.tr (s1 := s) (Fr.rf _ _) (Fr.wk (W2 := W_cwasN) (fr_possibleSortsN s seat) (by rfl)))) (by (try dsimp only); exact (Fr.tr (s1 := s) (Fr.rf _ _) (Fr.wk (W2 := W_cwasN) (fr_possiblePowersN s seat) (by rfl)))))) (by (try dsimp only); exact (Fr.rf _ _)))))
def W_mostAtOnePlaceN : List (Nat × Nat × Option Nat) := [(108, 108, none)]
set_option maxRecDepth 20000 in
set_option maxHeartbeats 200000 in
theorem fr_B_mostAtOnePlace_8N (powers : Int32) (minute : Int32) (i2 : Nat) (a2 : SG × Int32)  (hi2 : i2 < 10) : Fr W_mostAtOnePlaceN a2.1 ((B_mostAtOnePlace_8 powers minute) i2 a2).1 := by dsimp only [B_mostAtOnePlace_8]; exact (Fr.bifp (b := m_cmp .eq (F_hasBit a2.1 powers (Int32.ofNat i2)) 0) (x := (a2.2, a2.1)) (y := ((if a2.2 < ((uset a2.1 108 (a2.1 (98 + i2) minute.toNatClampNeg).toNatClampNeg ((a2.1 108 (a2.1 (98 + i2) minute.toNatClampNeg).toNatClampNeg) + 1)) 108 (a2.1 (98 + i2) minute.toNatClampNeg).toNatClampNeg) then ((uset a2.1 108 (a2.1 (98 + i2) minute.toNatClampNeg).toNatClampNeg ((a2.1 108 (a2.1 (98 + i2) minute.toNatClampNeg).toNatClampNeg) + 1)) 108 (a2.1 (98 + i2) minute.toNatClampNeg).toNatClampNeg) else a2.2), (uset a2.1 108 (a2.1 (98 + i2) minute.toNatClampNeg).toNatClampNeg ((a2.1 108 (a2.1 (98 + i2) minute.toNatClampNeg).toNatClampNeg) + 1)))) (fun x : Int32 × SG => x.2) (by (try dsimp only); exact (Fr.rf _ _)) (by (try dsimp only); exact (Fr.uset (s1 := a2.1) (a := 108) (j := (a2.1 (98 + i2) minute.toNatClampNeg).toNatClampNeg) (x := ((a2.1 108 (a2.1 (98 + i2) minute.toNatClampNeg).toNatClampNeg) + 1)) (by rfl) (Fr.rf _ _))))
set_option maxRecDepth 20000 in
set_option maxHeartbeats 200000 in
theorem fr_mostAtOnePlaceN (s : SG) (powers : Int32) (minute : Int32)  : Fr W_mostAtOnePlaceN s (F_mostAtOnePlace s powers minute).2 := by dsimp only [F_mostAtOnePlace]; exact (let z1 : SG := fil s 108 21 0; (frItrB (W := W_mostAtOnePlaceN) (m := (fun x : SG × Int32 => x.1)) (f := (B_mostAtOnePlace_8 powers minute)) 10 (fun ii aa hh => Fr.wk (W2 := W_mostAtOnePlaceN) (fr_B_mostAtOnePlace_8N powers minute ii aa  hh) (by rfl)) (10 - 1) 1 (z1, 0) (by omega) (Fr.fil (by rfl) (Fr.rf _ _))))
def W_caskN : List (Nat × Nat × Option Nat) := [(59, 63, none), (65, 88, none), (89, 95, none), (58, 58, some 8), (53, 57, none), (98, 107, none), (108, 108, none)]
set_option maxRecDepth 20000 in
set_option maxHeartbeats 200000 in
theorem fr_B_cask_16N (z4 : Int32 × SG) (i5 : Nat) (a5 : SG × Int32 × Int32)  (hi5 : i5 < 24) : Fr W_caskN a5.1 ((B_cask_16 z4) i5 a5).1 := by dsimp only [B_cask_16]; exact (Fr.tr (s1 := a5.1) (Fr.rf _ _) (Fr.wk (W2 := W_caskN) (fr_mostAtOnePlaceN a5.1 z4.1 (Int32.ofNat i5)) (by rfl)))
set_option maxRecDepth 20000 in
set_option maxHeartbeats 200000 in
theorem fr_caskN (s : SG) (seat : Int32)  : Fr W_caskN s (F_cask s seat).2 := by dsimp only [F_cask]; exact (Fr.bifp (b := m_cmp .ne (F_cisRower s seat) 0) (x := let z4 := F_possiblePowers s seat; let z5 := itr (B_cask_16 z4) 0 24 (z4.2, 0, 10); (z5.2.1, z5.1)) (y := ((-2), s)) (fun x : Int32 × SG => x.2) (by (try dsimp only); exact (let z4 : Int32 × SG := F_possiblePowers s seat; (frItrB (W := W_caskN) (m := (fun x : SG × Int32 × Int32 => x.1)) (f := (B_cask_16 z4)) 24 (fun ii aa hh => Fr.wk (W2 := W_caskN) (fr_B_cask_16N z4 ii aa  hh) (by rfl)) 24 0 (z4.2, 0, 10) (by omega) (by (try dsimp only); exact (Fr.tr (s1 := s) (Fr.rf _ _) (Fr.wk (W2 := W_caskN) (fr_possiblePowersN s seat) (by rfl))))))) (by (try dsimp only); exact (Fr.rf _ _)))
end
section
/-! THE WHOLE OF WHAT BOTH SIDES KEEP ALIKE -/
/-- events, river -/
def KE (s : SG) : Prop := s 2 3 = s 123 11 ∧ 0 ≤ (s 2 3).toInt ∧ (s 2 3).toNatClampNeg ≤ 8 ∧ (∀ e, e < 8 → s 3 e = s 130 e ∧ s 4 e = s 131 e ∧ s 5 e = s 132 e) ∧ evC s ∧ s 10 5 = s 123 9 ∧ s 10 6 = s 123 10
def DE : LW := [(2, 2, some 3), (3, 5, none), (10, 10, some 5), (10, 10, some 6), (123, 123, some 9), (123, 123, some 10), (123, 123, some 11), (130, 132, none)]
theorem KE.ag {s s1 : SG} (a : Ag DE s s1) (h : KE s) : KE s1 := by
  unfold KE evC at *
  rw [a 2 3 rfl, a 123 11 rfl, a 10 5 rfl, a 10 6 rfl, a 123 9 rfl, a 123 10 rfl, a.cell 3 (fun _ => rfl), a.cell 4 (fun _ => rfl), a.cell 5 (fun _ => rfl), a.cell 130 (fun _ => rfl), a.cell 131 (fun _ => rfl), a.cell 132 (fun _ => rfl)]
  exact h
/-- sightings -/
def KS (s : SG) : Prop := s 6 2 = s 123 37 ∧ 0 ≤ (s 6 2).toInt ∧ (s 6 2).toNatClampNeg ≤ 8 ∧ (∀ i, i < 8 → s 7 i = s 145 i ∧ s 8 i = s 146 i) ∧ ∀ i, i < (s 6 2).toNatClampNeg → ∃ m, m < 24 ∧ s 7 i = Int32.ofNat m
def DS : LW := [(6, 6, some 2), (7, 8, none), (123, 123, some 37), (145, 146, none)]
theorem KS.ag {s s1 : SG} (a : Ag DS s s1) (h : KS s) : KS s1 := by
  unfold KS at *
  rw [a 6 2 rfl, a 123 37 rfl, a.cell 7 (fun _ => rfl), a.cell 8 (fun _ => rfl), a.cell 145 (fun _ => rfl), a.cell 146 (fun _ => rfl)]
  exact h
/-- sheets, finding -/
def KHq (s : SG) (q : Nat) : Prop := m_cmp .ne (s (115 + 2 * q) 1) 0 = !(m_cmp .ne (s 148 q) 0) ∧ s (115 + 2 * q) 2 = s 149 q ∧ s (115 + 2 * q) 3 = s 150 q ∧ 0 ≤ (s 150 q).toInt ∧ (s 150 q).toNatClampNeg ≤ 60 ∧ ∀ i, i < 60 → s (116 + 2 * q) i = s 151 (60 * q + i)
def KH (s : SG) : Prop := (∀ q, q < 4 → KHq s q) ∧ s 0 4 = s 123 46
def DH : LW := [(115, 122, none), (148, 151, none), (0, 0, some 4), (123, 123, some 46)]
theorem KHq.ag {s s1 : SG} {q : Nat} (h : KHq s q) (hq : q < 4) (a1 : ∀ j, s1 (115 + 2 * q) j = s (115 + 2 * q) j) (a2 : ∀ j, s1 (116 + 2 * q) j = s (116 + 2 * q) j) (a3 : s1 148 q = s 148 q) (a4 : s1 149 q = s 149 q) (a5 : s1 150 q = s 150 q) (a6 : ∀ i, i < 60 → s1 151 (60 * q + i) = s 151 (60 * q + i)) : KHq s1 q := by
  obtain ⟨b1, b2, b3, b4, b5, b6⟩ := h
  unfold KHq
  rw [a1, a1, a1, a3, a4, a5]
  exact ⟨b1, b2, b3, b4, b5, fun i hi => by rw [a2, a6 i hi]; exact b6 i hi⟩
theorem KH.ag {s s1 : SG} (a : Ag DH s s1) (h : KH s) : KH s1 := ⟨fun q hq => (h.1 q hq).ag hq (fun j => a _ j (inW_r 115 122 (by omega) (by omega) rfl)) (fun j => a _ j (inW_r 115 122 (by omega) (by omega) rfl)) (a 148 q rfl) (a 149 q rfl) (a 150 q rfl) (fun i _ => a 151 _ rfl), by rw [a 0 4 rfl, a 123 46 rfl]; exact h.2⟩
/-- what the class keeps at hand -/
def TC (s : SG) : Prop := OuC_a (inC_a s 255) 24 s ∧ s 15 8 = sth (trip (inC_a s 255) 24) ∧ ∀ k, k < jn (inC_a s 255) → s 46 k = smn (trip (inC_a s 255) 24) k ∧ s 47 k = ssm (trip (inC_a s 255) 24) k
def GC (s : SG) : Prop := ∀ m, m < 256 → s 96 m = -9 ∨ s 96 m = gfi (inC_a s (Int32.ofNat m)) 24
def KX (s : SG) : Prop := (m_cmp .eq (s 0 12) 0 = true → TC s) ∧ (m_cmp .eq (s 0 13) 0 = true → GC s)
def DJ : LW := [(2, 2, some 3), (3, 5, none), (10, 10, some 0), (10, 10, some 5), (10, 10, some 6), (11, 14, none)]
theorem befC_ag {s s1 : SG} (a : Ag DJ s s1) (m : Int32) : befC s1 m = befC s m := by
  funext t
  unfold befC
  rw [a 2 3 rfl, a.cell 3 (fun _ => rfl), a.cell 4 (fun _ => rfl), a.cell 5 (fun _ => rfl)]
theorem inC_ag {s s1 : SG} (a : Ag DJ s s1) (m : Int32) : inC_a s1 m = inC_a s m := by
  unfold inC_a
  rw [befC_ag a, a 10 0 rfl, a 10 5 rfl, a 10 6 rfl, a.cell 11 (fun _ => rfl), a.cell 12 (fun _ => rfl), a.cell 13 (fun _ => rfl), a.cell 14 (fun _ => rfl)]
def DTC : LW := [(2, 2, some 3), (3, 5, none), (10, 10, some 0), (10, 10, some 5), (10, 10, some 6), (11, 14, none), (15, 15, some 8), (16, 20, none), (22, 47, none)]
def DGC : LW := [(2, 2, some 3), (3, 5, none), (10, 10, some 0), (10, 10, some 5), (10, 10, some 6), (11, 14, none), (96, 96, none)]
def DX : LW := [(0, 0, some 12), (0, 0, some 13), (2, 2, some 3), (3, 5, none), (10, 10, some 0), (10, 10, some 5), (10, 10, some 6), (11, 14, none), (15, 15, some 8), (16, 20, none), (22, 47, none), (96, 96, none)]
theorem OuC_ag {J : TI} {s s1 : SG} {i : Nat} (hi : i ≤ 24) (a : Ag DTC s s1) (h : OuC_a J i s) : OuC_a J i s1 := fun t ht => by
  rw [a 16 t rfl, a 17 t rfl, a 18 t rfl, a 19 t rfl, a 20 t rfl]
  obtain ⟨h1, h2, h3, h4, h5, h6⟩ := h t ht
  exact ⟨h1, h2, h3, h4, h5, fun k hk => (a (22 + t) k (inW_r 22 47 (by omega) (by omega) rfl)).trans (h6 k hk)⟩
theorem TC.ag {s s1 : SG} (a : Ag DTC s s1) (h : TC s) : TC s1 := by
  have e := inC_ag (a.sub rfl) (m := 255)
  unfold TC at *
  rw [e, a 15 8 rfl, a.cell 46 (fun _ => rfl), a.cell 47 (fun _ => rfl)]
  exact ⟨OuC_ag (Nat.le_refl _) a h.1, h.2⟩
theorem GC.ag {s s1 : SG} (a : Ag DGC s s1) (h : GC s) : GC s1 := fun m hm => by
  rw [inC_ag (a.sub rfl), a 96 m rfl]
  exact h m hm
theorem KX.ag {s s1 : SG} (a : Ag DX s s1) (h : KX s) : KX s1 := ⟨fun q => (h.1 (by rw [a 0 12 rfl] at q; exact q)).ag (a.sub rfl), fun q => (h.2 (by rw [a 0 13 rfl] at q; exact q)).ag (a.sub rfl)⟩
/-- stale: nothing is kept at hand -/
theorem KX.stale {s : SG} (h1 : s 0 12 = 1) (h2 : s 0 13 = 1) : KX s := ⟨fun q => (by rw [h1] at q; cases q), fun q => (by rw [h2] at q; cases q)⟩
theorem KX.mark (s : SG) : KX (F_mark s) := KX.stale rfl rfl
/-- what was told -/
def KG (s : SG) : Prop := KU s ∧ KC s ∧ KE s ∧ KS s ∧ KH s
def KF (s : SG) : Prop := KG s ∧ KX s
def DG : LW := [(109, 114, none), (124, 125, none), (10, 10, some 0), (11, 14, none), (2, 2, some 3), (3, 5, none), (10, 10, some 5), (10, 10, some 6), (123, 123, some 9), (123, 123, some 10), (123, 123, some 11), (130, 132, none), (6, 6, some 2), (7, 8, none), (123, 123, some 37), (145, 146, none), (115, 122, none), (148, 151, none), (0, 0, some 4), (123, 123, some 46)]
def DF : LW := DG ++ [(0, 0, some 12), (0, 0, some 13), (15, 15, some 8), (16, 20, none), (22, 47, none), (96, 96, none)]
theorem KG.ag {s s1 : SG} (a : Ag DG s s1) (h : KG s) : KG s1 := ⟨h.1.ag (a.sub rfl), h.2.1.ag (a.sub rfl), h.2.2.1.ag (a.sub rfl), h.2.2.2.1.ag (a.sub rfl), h.2.2.2.2.ag (a.sub rfl)⟩
theorem KF.ag {s s1 : SG} (a : Ag DF s s1) (h : KF s) : KF s1 := ⟨h.1.ag (a.sub rfl), h.2.ag (a.sub rfl)⟩
/-! powers and rates are what they may be -/
theorem ofn_ne {i : Nat} (h : i < 1000) : Int32.ofNat i ≠ -1 := fun e => by
  have e := congrArg Int32.toInt e
  rw [ofn_int (by omega)] at e
  have e2 : (-1 : Int32).toInt = -1 := by decide
  omega
theorem pw19 {s : SG} (t : KT s) (c : KC0 s) {k : Nat} (hk : k < (s 10 0).toNatClampNeg) : 1 ≤ (s 12 k).toInt ∧ (s 12 k).toInt ≤ 9 := by
  obtain ⟨⟨x, x1, x2⟩, c2⟩ := c
  have h2 := (c2 k hk).2
  obtain ⟨hl, e0, -⟩ := t
  rw [x2, e0] at hk
  obtain ⟨l1, l2⟩ := rowLt hl.1 hl.2.1 hk
  have hx : x = -1 := by
    unfold rowN at hk
    cases q : m_cmp .ne x (-1) with
    | true =>
      rw [q] at hk
      have hk : k < (0 : Int32).toNatClampNeg := hk
      have e : (0 : Int32).toNatClampNeg = 0 := rfl
      omega
    | false => exact Decidable.not_not.mp (m_ff m_ne_iff q)
  rw [e0] at x1
  have hf : fitCb (3 * k + 1) (s 110 (3 * k + 1)) = true := by
    rcases x1 with ⟨i, i1, -, -, i4⟩ | ⟨i1, -⟩
    · rw [hx] at i4
      have l3 := hl.2.1
      exact absurd i4.symm (ofn_ne (by omega))
    · exact i1 _ l1
  rw [f1C] at hf
  rw [h2]
  generalize s 110 (3 * k + 1) = b at *
  have e49 : (49 : Int32).toInt = 49 := by decide
  have e57 : (57 : Int32).toInt = 57 := by decide
  have e48 : (48 : Int32).toInt = 48 := by decide
  cases q1 : m_cmp .lt b 49 with
  | true => rw [q1] at hf; cases hf
  | false =>
    cases q2 : m_cmp .gt b 57 with
    | true => rw [q1, q2] at hf; cases hf
    | false =>
      have q1 := m_ff m_lt_iff q1
      have q2 := m_ff m_gt_iff q2
      have d : (b - 48).toInt = b.toInt - 48 := (i32_sub (by omega) (by omega)).trans (by omega)
      omega
theorem rt03 {s : SG} (c : KC1 s) {t : Nat} (ht : t < 24) : 0 ≤ (s 13 t).toInt ∧ (s 13 t).toInt ≤ 3 := by
  rw [c t ht]
  unfold ratS
  have e48 : (48 : Int32).toInt = 48 := by decide
  have e51 : (51 : Int32).toInt = 51 := by decide
  cases q : m_cmp .ge (Int32.ofNat t) (manyS fitRb (s 111 1) (s 112)) with
  | true => exact (show 0 ≤ (2 : Int32).toInt ∧ (2 : Int32).toInt ≤ 3 from by decide)
  | false =>
    show 0 ≤ (s 112 t - 48).toInt ∧ (s 112 t - 48).toInt ≤ 3
    have l := manyS_lt ht q
    have hf : fitRb (s 112 t) = true := by
      rcases flt_cases fitRb (s 111 1) (s 112) with ⟨-, -, h⟩ | ⟨i, i1, -, i3⟩
      · exact h t l
      · exfalso
        have l2 := m_ff m_ge_iff q
        unfold manyS at l2
        rw [i3, m_ne_iff.mpr (fun e => by
          have e := congrArg Int32.toInt e
          rw [ofn_int (by have := cl_lt (s 111 1); omega)] at e
          have e2 : (-1 : Int32).toInt = -1 := by decide
          omega)] at l2
        have l2 : ¬ (0 : Int32).toInt ≤ (Int32.ofNat t).toInt := l2
        rw [ofn_int (by omega)] at l2
        have e0 : (0 : Int32).toInt = 0 := by decide
        omega
    unfold fitRb at hf
    generalize s 112 t = b at *
    cases q1 : m_cmp .lt b 48 with
    | true => rw [q1] at hf; cases hf
    | false =>
      cases q2 : m_cmp .gt b 51 with
      | true => rw [q1, q2] at hf; cases hf
      | false =>
        have q1 := m_ff m_lt_iff q1
        have q2 := m_ff m_gt_iff q2
        have d : (b - 48).toInt = b.toInt - 48 := (i32_sub (by omega) (by omega)).trans (by omega)
        omega
theorem ovC {s : SG} (t : KT s) (c : KC s) (m : Int32) : ovJ (inC_a s m) := ovJ_of (row8 t c.1) (fun k hk => pw19 t c.1 hk) (fun t ht => rt03 c.2.1 ht)
/-! the told trip of the class -/
theorem tt {s : SG} (h : KF s) : KF (F_toldTrip s) ∧ TC (F_toldTrip s) ∧ Ag DG s (F_toldTrip s) := by
  obtain ⟨g, x⟩ := h
  unfold F_toldTrip
  dsimp only
  cases q : m_cmp .eq (s 0 12) 0 with
  | true => exact ⟨⟨g, x⟩, x.1 q, Ag.rf _ _⟩
  | false =>
    show KF (uset (F_row_a s 255) 0 12 0) ∧ TC (uset (F_row_a s 255) 0 12 0) ∧ Ag DG s (uset (F_row_a s 255) 0 12 0)
    obtain ⟨m, p, R⟩ := rowC_a (s := s) (mask := 255) (row8 g.1.1 g.2.1.1) g.2.2.1.2.2.2.2.1
    generalize F_row_a s 255 = z at *
    obtain ⟨f, -, -, r1, r2, -, r4⟩ := R
    have f : Fr W_row_a s z := f
    have r1 : z 15 8 = sth (trip (inC_a s 255) 24) := r1
    have r4 : OuC_a (inC_a s 255) 24 z := r4
    have fz : Fr [(0, 0, some 12)] z (uset z 0 12 0) := Fr.uset rfl (Fr.rf _ _)
    have aG : Ag DG s (uset z 0 12 0) := (f.ag DG rfl).tr (fz.ag DG rfl)
    have aJ : Ag DJ s z := f.ag DJ rfl
    have tz : TC z := by
      unfold TC
      rw [inC_ag aJ]
      exact ⟨r4, r1, fun k hk => ⟨(r2 k hk).1, (r2 k hk).2.1⟩⟩
    have tz2 : TC (uset z 0 12 0) := tz.ag (fz.ag DTC rfl)
    refine ⟨⟨g.ag aG, fun _ => tz2, fun w => ?_⟩, tz2, aG⟩
    have e : uset z 0 12 0 0 13 = s 0 13 := (fz 0 13 rfl).trans (f 0 13 rfl)
    rw [e] at w
    exact (x.2 w).ag ((f.ag DGC rfl).tr (fz.ag DGC rfl))
/-! what the model runs -/
theorem itr_cong {α : Type} {f g : Nat → α → α} {a : α} {n : Nat} (h : ∀ i x, i < n → f i x = g i x) : ∀ m, m ≤ n → itr f 0 m a = itr g 0 m a
  | 0, _ => rfl
  | m + 1, hm => by rw [itr_0, itr_0, itr_cong h m (by omega), h m _ (by omega)]
theorem bef_c {n : Nat} {K Mi Nu K2 Mi2 Nu2 : NI} {off off2 : Nat → Bool} {t : Nat} (h : ∀ e, e < n → K e = K2 e ∧ Mi e = Mi2 e ∧ Nu e = Nu2 e ∧ off e = off2 e) : bef n K Mi Nu off t = bef n K2 Mi2 Nu2 off2 t := itr_cong (fun e x he => by
  obtain ⟨h1, h2, h3, h4⟩ := h e he
  unfold bstep
  rw [h1, h2, h3, h4]) n (Nat.le_refl _)
def MOu (J : TI) (a : SG) : Prop := a 123 19 = sme (trip J 24) ∧ a 123 20 = spl' (trip J 24) ∧ a 123 21 = sth (trip J 24) ∧ a 123 22 = gma J 24 ∧ a 123 23 = gfi J 24 ∧ a 123 24 = far J 24 ∧ (∀ k, k < jn J → a 137 k = smn (trip J 24) k ∧ a 138 k = ssm (trip J 24) k) ∧ OuM J 24 a
theorem runMO {z : SG} {J : TI} (hn : (z 123 2).toNatClampNeg ≤ 8) (hse : ∀ k, k < 8 → ∃ j, j < 8 ∧ z 135 k = Int32.ofNat j) (e : eqJ (inM z) J) (ov : ovJ J) : MOu J (F_runs z) ∧ Fr W_runs z (F_runs z) := by
  obtain ⟨f, a1, a2, a3, a4, a5, a6, a7, a8⟩ := runM hn hse (ov_c e ov)
  have T := trip_c e 24 (Nat.le_refl _)
  refine ⟨⟨a1.trans T.1, a2.trans T.2.1, a3.trans T.2.2.1, a4.trans (gma_c e 24 (Nat.le_refl _)), a5.trans (gfi_c e 24 (Nat.le_refl _)), a6.trans (far_c e 24 (Nat.le_refl _)), fun k hk => ?_, fun t ht => ?_⟩, f⟩
  · have hk2 : k < jn (inM z) := by rw [e.1]; exact hk
    exact ⟨(a7 k hk2).1.trans (T.2.2.2 k hk2).1, (a7 k hk2).2.trans (T.2.2.2 k hk2).2⟩
  · obtain ⟨b1, b2, b3, b4, b5, b6⟩ := a8 t ht
    have S := trip_c e (t + 1) (by omega)
    have L := lrs_t e ht
    rw [L] at b3 b4
    refine ⟨b1.trans S.1, b2.trans S.2.1, b3, b4, b5.trans (gr_t e ht), fun k hk => ?_⟩
    have hk2 : k < jn (inM z) := by rw [e.1]; exact hk
    exact (b6 k hk2).trans (pul_t e ht hk2)
/-- the model's inputs, as told -/
def AsT (s z : SG) : Prop := z 123 2 = s 10 0 ∧ (∀ k, k < (s 10 0).toNatClampNeg → z 126 k = s 11 k ∧ z 127 k = s 12 k) ∧ (∀ t, t < 24 → z 133 t = s 13 t ∧ z 134 t = s 14 t) ∧ (∀ k, k < 8 → z 135 k = Int32.ofNat k) ∧ z 123 17 = 0 ∧ Fr W_asTold s z
theorem asT {s : SG} (t : KT s) (c : KC s) : AsT s (F_asTold s) := by
  obtain ⟨d1, d2, d3⟩ := kd t c
  have fr := fr_asTold s
  have k1 : ∀ i, i ≤ 24 → (∀ t, t < i → itr B_asTold_4 0 i (F_reads s) 133 t = F_reads s 128 t ∧ itr B_asTold_4 0 i (F_reads s) 134 t = F_reads s 129 t) ∧ ∀ b j, b ≠ 133 → b ≠ 134 → itr B_asTold_4 0 i (F_reads s) b j = F_reads s b j := by
    intro i
    generalize F_reads s = w
    induction i with
    | zero => exact fun _ => ⟨fun t ht => absurd ht (by omega), fun b j _ _ => rfl⟩
    | succ i ih =>
      intro hi
      obtain ⟨h1, h2⟩ := ih (by omega)
      rw [itr_0]
      generalize itr B_asTold_4 0 i w = a at *
      have e : B_asTold_4 i a = uset (uset a 133 i (a 128 i)) 134 i (a 129 i) := rfl
      rw [e, h2 128 i (by decide) (by decide), h2 129 i (by decide) (by decide)]
      refine ⟨fun t ht => ?_, fun b j b1 b2 => ?_⟩
      · by_cases q : t = i
        · rw [q]
          exact ⟨(uset_na (by decide)).trans (uset_eq _ _ _ _), uset_eq _ _ _ _⟩
        · rw [uset_na (by decide), uset_nj q, uset_nj q, uset_na (by decide)]
          exact h1 t (by omega)
      · rw [uset_na b2, uset_na b1]
        exact h2 b j b1 b2
  obtain ⟨k2, k3⟩ := k1 24 (Nat.le_refl _)
  have eF : F_asTold s = itr B_asTold_30 0 8 (uset (itr B_asTold_4 0 24 (F_reads s)) 123 17 0) := rfl
  rw [eF] at fr ⊢
  generalize itr B_asTold_4 0 24 (F_reads s) = y at *
  have k4 : ∀ i, i ≤ 8 → (∀ k, k < i → itr B_asTold_30 0 i (uset y 123 17 0) 135 k = Int32.ofNat k) ∧ ∀ b j, b ≠ 135 → itr B_asTold_30 0 i (uset y 123 17 0) b j = uset y 123 17 0 b j := by
    intro i
    induction i with
    | zero => exact fun _ => ⟨fun t ht => absurd ht (by omega), fun b j _ => rfl⟩
    | succ i ih =>
      intro hi
      obtain ⟨h1, h2⟩ := ih (by omega)
      rw [itr_0]
      generalize itr B_asTold_30 0 i (uset y 123 17 0) = a at *
      have e : B_asTold_30 i a = uset a 135 i (Int32.ofNat i) := rfl
      rw [e]
      refine ⟨fun k hk => ?_, fun b j b1 => ?_⟩
      · by_cases q : k = i
        · rw [q]; exact uset_eq _ _ _ _
        · rw [uset_nj q]; exact h1 k (by omega)
      · rw [uset_na b1]; exact h2 b j b1
  obtain ⟨k5, k6⟩ := k4 8 (Nat.le_refl _)
  generalize itr B_asTold_30 0 8 (uset y 123 17 0) = z at *
  refine ⟨?_, fun k hk => ⟨?_, ?_⟩, fun t ht => ⟨?_, ?_⟩, k5, ?_, fr⟩
  · rw [k6 123 2 (by decide), uset_nj (by decide), k3 123 2 (by decide) (by decide)]; exact d1.symm
  · rw [k6 126 k (by decide), uset_na (by decide), k3 126 k (by decide) (by decide)]; exact (d2 k hk).1.symm
  · rw [k6 127 k (by decide), uset_na (by decide), k3 127 k (by decide) (by decide)]; exact (d2 k hk).2.symm
  · rw [k6 133 t (by decide), uset_na (by decide), (k2 t ht).1]; exact (d3 t ht).1.symm
  · rw [k6 134 t (by decide), uset_na (by decide), (k2 t ht).2]; exact (d3 t ht).2.symm
  · rw [k6 123 17 (by decide)]; exact uset_eq _ _ _ _
theorem bit0 : ∀ e, e < 8 → m_cmp .ne (((0 : Int32) >>> ((Int32.ofNat e) &&& 31)) &&& 1) 0 = false := by decide
theorem befT {s z : SG} (h : KE s) (f : Fr W_asTold s z) {set mask : Int32} (h17 : z 123 17 = set) (hb : ∀ e, e < 8 → m_cmp .ne ((set >>> ((Int32.ofNat e) &&& 31)) &&& 1) 0 = !(m_cmp .ne ((mask >>> ((Int32.ofNat e) &&& 31)) &&& 1) 0)) (t : Nat) : befM z t = befC s mask t := by
  obtain ⟨h1, -, h3, h4, -, -, -⟩ := h
  unfold befM befC
  rw [f 123 11 rfl, ← h1]
  refine bef_c (fun e he => ?_)
  obtain ⟨a1, a2, a3⟩ := h4 e (by omega)
  refine ⟨(f 130 e rfl).trans a1.symm, (f 131 e rfl).trans a2.symm, (f 132 e rfl).trans a3.symm, ?_⟩
  unfold offM offC
  rw [isIn_bit, h17]
  exact hb e (by omega)
theorem hb0 : ∀ e, e < 8 → m_cmp .ne (((0 : Int32) >>> ((Int32.ofNat e) &&& 31)) &&& 1) 0 = !(m_cmp .ne (((255 : Int32) >>> ((Int32.ofNat e) &&& 31)) &&& 1) 0) := by decide
theorem eqT_told {s z : SG} (e : KE s) (h8 : (s 10 0).toNatClampNeg ≤ 8) (a : AsT s z) : eqJ (inM z) (inC_a s 255) := by
  obtain ⟨a1, a2, a3, a4, a5, f⟩ := a
  have en : jn (inM z) = (s 10 0).toNatClampNeg := by show (z 123 2).toNatClampNeg = _; rw [a1]
  refine ⟨en, fun k hk => ?_, fun t ht => ?_, ?_, ?_⟩
  · rw [en] at hk
    exact ⟨(a2 k hk).1, (a2 k hk).2, a4 k (by omega)⟩
  · exact ⟨(a3 t ht).1, (a3 t ht).2, befT e f a5 hb0 t⟩
  · show z 123 9 = s 10 5
    rw [f 123 9 rfl]
    exact e.2.2.2.2.2.1.symm
  · show z 123 10 = s 10 6
    rw [f 123 10 rfl]
    exact e.2.2.2.2.2.2.symm
theorem rt {s : SG} (h : KG s) : MOu (inC_a s 255) (F_runsTold s) ∧ F_runsTold s 123 2 = s 10 0 := by
  have a := asT h.1.1 h.2.1
  have h8 := row8 h.1.1 h.2.1.1
  have e := eqT_told h.2.2.1 h8 a
  have eF : F_runsTold s = F_runs (F_asTold s) := rfl
  rw [eF]
  generalize F_asTold s = z at *
  have r := runMO (z := z) (by rw [a.1]; exact h8) (fun k hk => ⟨k, hk, a.2.2.2.1 k hk⟩) e (ovC h.1.1 h.2.1 255)
  exact ⟨r.1, (r.2 123 2 rfl).trans a.1⟩
end
section
/-! tests of the model, told by bl -/
theorem cT {α : Type} (a b : α) : (bif true then a else b) = a := rfl
theorem cF {α : Type} (a b : α) : (bif false then a else b) = b := rfl
theorem nT : (!true) = false := rfl
theorem nF : (!false) = true := rfl
section TST
variable (s : SG) (v : Int32)
theorem isM_e : m_cmp .eq (F_isMinute s v) 0 = !(bl v 24) := in_e s v 23 24 rfl
theorem isM_n : m_cmp .ne (F_isMinute s v) 0 = bl v 24 := in_n s v 23 24 rfl
theorem is2_e : m_cmp .eq (F_isTwo s v) 0 = !(bl v 2) := in_e s v 1 2 rfl
theorem is2_n : m_cmp .ne (F_isTwo s v) 0 = bl v 2 := in_n s v 1 2 rfl
theorem is3_e : m_cmp .eq (F_isThree s v) 0 = !(bl v 3) := in_e s v 2 3 rfl
theorem is3_n : m_cmp .ne (F_isThree s v) 0 = bl v 3 := in_n s v 2 3 rfl
theorem is8_e : m_cmp .eq (F_isEight s v) 0 = !(bl v 8) := in_e s v 7 8 rfl
theorem is8_n : m_cmp .ne (F_isEight s v) 0 = bl v 8 := in_n s v 7 8 rfl
theorem isX_e : m_cmp .eq (F_isText s v) 0 = !(bl v 3) := in_e s v 2 3 rfl
theorem isX_n : m_cmp .ne (F_isText s v) 0 = bl v 3 := in_n s v 2 3 rfl
theorem isS_e : m_cmp .eq (F_isSheet s v) 0 = !(bl v 4) := in_e s v 3 4 rfl
theorem isS_n : m_cmp .ne (F_isSheet s v) 0 = bl v 4 := in_n s v 3 4 rfl
end TST
/-- who rows -/
theorem isRw {s : SG} (t : KT s) (c : KC s) (k : Int32) : m_cmp .eq (F_isRower s k).1 0 = !(bl k (s 10 0)) ∧ (F_isRower s k).2 = F_reads s := by
  have d := (kd t c).1
  have e : F_isRower s k = (F_in (F_reads s) k 0 (F_reads s 123 2 - 1), F_reads s) := rfl
  rw [e]
  refine ⟨?_, rfl⟩
  show m_cmp .eq (F_in (F_reads s) k 0 (F_reads s 123 2 - 1)) 0 = _
  rw [← d]
  have r0 : 0 ≤ (s 10 0).toInt := by
    obtain ⟨⟨x, x1, x2⟩, -⟩ := c.1
    rw [x2]
    unfold rowN
    cases m_cmp .ne x (-1) with
    | true => exact (show 0 ≤ (0 : Int32).toInt from by decide)
    | false =>
      show 0 ≤ ((s 109 1 + 1) / 3).toInt
      obtain ⟨L, l1, l2⟩ := lenO t.1.1 t.1.2.1
      rw [t.2.1, l2]
      exact (show ∀ L, L < 24 → 0 ≤ ((Int32.ofNat L + 1) / 3).toInt from by decide) L (by omega)
  have r1 := i32_le (s 10 0)
  have e1 : (1 : Int32).toInt = 1 := by decide
  have e2 : (s 10 0 - 1).toInt = (s 10 0).toInt - 1 := (i32_sub (by omega) (by omega)).trans (by omega)
  exact in_e _ k _ _ (by omega)
theorem cisR_e (s : SG) (k : Int32) : m_cmp .eq (F_cisRower s k) 0 = !(bl k (s 10 0)) := bl_e s k _
theorem cisR_n (s : SG) (k : Int32) : m_cmp .ne (F_cisRower s k) 0 = bl k (s 10 0) := bl_n s k _
theorem bl_2 {v : Int32} : bl v 2 = true ↔ v = 0 ∨ v = 1 := by
  constructor
  · intro h
    obtain ⟨h1, h2⟩ := bl_iff.mp h
    have e : (2 : Int32).toInt = 2 := by decide
    have q : v.toInt = (0 : Int32).toInt ∨ v.toInt = (1 : Int32).toInt := by
      have e0 : (0 : Int32).toInt = 0 := by decide
      have e1 : (1 : Int32).toInt = 1 := by decide
      omega
    rcases q with q | q
    · exact Or.inl (Int32.toInt_inj.mp q)
    · exact Or.inr (Int32.toInt_inj.mp q)
  · intro h
    rcases h with rfl | rfl <;> rfl
/-! promises 5, 6, 7: fault, rower, call -/
def DR : LW := [(126, 129, none), (123, 123, some 2), (123, 123, some 5), (123, 123, some 7)]
theorem q_rower {s : SG} (t : KT s) (c : KC s) (k w : Int32) : F_crower s k w = (F_rower s k w).1 := by
  obtain ⟨r1, r2⟩ := isRw t c k
  obtain ⟨-, d2, -⟩ := kd t c
  have eM : F_rower s k w = (bif m_cmp .eq (F_isRower s k).1 0 then (-2 : Int32) else (bif m_cmp .eq (F_isTwo (F_isRower s k).2 w) 0 then (-2 : Int32) else F_rowerOf (F_isRower s k).2 k w), (F_isRower s k).2) := rfl
  have eC : F_crower s k w = bif m_cmp .eq (F_cisRower s k) 0 then ((-2)) else (bif m_cmp .ne (F_isBelow s w 2) 0 then (bif m_cmp .ne w 0 then s 12 k.toNatClampNeg else s 11 k.toNatClampNeg) else ((-2))) := rfl
  rw [eC, eM, r1, r2, is2_e, cisR_e, bl_n]
  cases q : bl k (s 10 0) with
  | false => rfl
  | true =>
    cases q2 : bl w 2 with
    | false => rfl
    | true =>
      have hk : k.toNatClampNeg < (s 10 0).toNatClampNeg := (bl_ofn q).2
      obtain ⟨e1, e2⟩ := d2 _ hk
      have eR : F_rowerOf (F_reads s) k w = bif m_cmp .ne w 0 then F_reads s 127 k.toNatClampNeg else F_reads s 126 k.toNatClampNeg := rfl
      (try dsimp only [nT, nF, cT, cF]); rw [eR, e1, e2]
theorem q_call {s : SG} (t : KT s) (c : KC s) (m w : Int32) : F_ccall s m w = (F_call s m w).1 := by
  obtain ⟨-, -, d3⟩ := kd t c
  have eM : F_call s m w = bif m_cmp .eq (F_isMinute s m) 0 then ((-2 : Int32), s) else (bif m_cmp .eq (F_isTwo s w) 0 then ((-2 : Int32), s) else (F_callOf s m w)) := rfl
  have eC : F_ccall s m w = bif m_cmp .eq (F_isBelow s m 24) 0 then ((-2)) else (bif m_cmp .ne (F_isBelow s w 2) 0 then (bif m_cmp .ne w 0 then s 14 m.toNatClampNeg else s 13 m.toNatClampNeg) else ((-2))) := rfl
  rw [eC, eM, isM_e, is2_e, bl_e, bl_n]
  cases q : bl m 24 with
  | false => rfl
  | true =>
    cases q2 : bl w 2 with
    | false => rfl
    | true =>
      have hm : m.toNatClampNeg < 24 := (bl_ofn q).2
      obtain ⟨e1, e2⟩ := d3 _ hm
      have eR : F_callOf s m w = (bif m_cmp .ne w 0 then F_reads s 129 m.toNatClampNeg else F_reads s 128 m.toNatClampNeg, F_reads s) := rfl
      (try dsimp only [nT, nF, cT, cF]); rw [eR, e1, e2]
theorem q_fault {s : SG} (t : KT s) (x : Int32) : F_cfault s x = (F_fault s x).1 := by
  obtain ⟨f0, f1, f2⟩ := faults t
  have eM : F_fault s x = bif m_cmp .eq (F_isText s x) 0 then ((-2 : Int32), s) else (F_faultOf s x) := rfl
  have eO : ∀ y : Int32, F_faultOf s y = (bif m_cmp .ne y 0 then (bif m_cmp .ne y 1 then (F_readsRudder (F_readsRates (F_readsCrew s).2).2).1 else (F_readsRates (F_readsCrew s).2).1) else (F_readsCrew s).1, (F_readsRudder (F_readsRates (F_readsCrew s).2).2).2) := fun _ => rfl
  unfold F_cfault
  rw [eM, isX_e, eO]
  by_cases e0 : x = 0
  · rw [if_pos e0, e0]
    have eC : F_cfault_0 s = F_crewFault s := rfl
    rw [eC, f0]
    rfl
  by_cases e1 : x = 1
  · rw [if_neg e0, if_pos e1, e1]
    have eC : F_cfault_1 s = F_signFault_1 s := rfl
    rw [eC, f1]
    rfl
  by_cases e2 : x = 2
  · rw [if_neg e0, if_neg e1, if_pos e2, e2]
    have eC : F_cfault_2 s = F_signFault_2 s := rfl
    rw [eC, f2]
    rfl
  have hb : bl x 3 = false := by
    cases q : bl x 3 with
    | false => rfl
    | true =>
      rcases bl_3.mp q with w | w | w
      · exact absurd w e0
      · exact absurd w e1
      · exact absurd w e2
  rw [if_neg e0, if_neg e1, if_neg e2, hb]
  rfl
end
section
/-! the calls on the told trip: answers alike, all that is kept stays alike -/
theorem gr01 (J : TI) (t : Nat) (x : TS) : gr' J t x = 0 ∨ gr' J t x = 1 := by
  unfold gr'
  cases m_cmp .ne (sth x) (-1)
  · cases grd J t x
    · exact Or.inl rfl
    · exact Or.inr rfl
  · exact Or.inl rfl
theorem gfi_stay {J : TI} {i : Nat} (h : gfi J i ≠ -1) : ∀ n, gfi J (i + n) = gfi J i
  | 0 => rfl
  | n + 1 => by
    rw [show i + (n + 1) = (i + n) + 1 from rfl, gfi_s, gfi_stay h n, m_ne_iff.mpr h]; (try dsimp only [nT, nF, cT, cF])
    cases m_cmp .eq (gr' J (i + n) (trip J (i + n))) 0 <;> rfl
theorem fstG {f : NI} {J : TI} (h : ∀ t, t < 24 → f t = gr' J t (trip J t)) {B : Nat → Unit → Unit ⊕ Int32} (hB : ∀ t u, B t u = bif m_cmp .ne (f t) 1 then .inl () else .inr (Int32.ofNat t)) : ∀ n lo, lo + n = 24 → gfi J lo = -1 → Sum.elim (fun _ : Unit => (-1 : Int32)) (fun x : Nat × Int32 => x.2) (itx B lo n ()) = gfi J 24
  | 0, lo, hl, hg => by
    have e : lo = 24 := by omega
    rw [e] at hg
    rw [hg]
    rfl
  | n + 1, lo, hl, hg => by
    have hs := gfi_s J lo
    rw [hg] at hs
    rcases gr01 J lo (trip J lo) with e | e
    · rw [itx_l B (x := ()) (by rw [hB, h lo (by omega), e]; rfl)]
      exact fstG h hB n (lo + 1) (by omega) (by rw [hs, e]; rfl)
    · rw [itx_r B (b := Int32.ofNat lo) (by rw [hB, h lo (by omega), e]; rfl)]
      rw [e] at hs
      have hs : gfi J (lo + 1) = Int32.ofNat lo := hs
      have st := gfi_stay (J := J) (i := lo + 1) (by rw [hs]; exact ofn_ne (by omega)) n
      rw [show lo + 1 + n = 24 by omega, hs] at st
      rw [st]
      rfl
theorem plB (J : TI) : ∀ t, 0 ≤ (spl' (trip J t)).toInt ∧ (spl' (trip J t)).toInt ≤ 20
  | 0 => (show 0 ≤ (10 : Int32).toInt ∧ (10 : Int32).toInt ≤ 20 from by decide)
  | t + 1 => by
    have ih := plB J t
    show 0 ≤ (bif m_cmp .ne (sth (trip J t)) (-1) then spl' (trip J t) else pl' J t (trip J t)).toInt ∧ (bif m_cmp .ne (sth (trip J t)) (-1) then spl' (trip J t) else pl' J t (trip J t)).toInt ≤ 20
    cases m_cmp .ne (sth (trip J t)) (-1) with
    | true => exact ih
    | false =>
      (try dsimp only [nT, nF, cT, cF])
      unfold pl'
      have e0 : (0 : Int32).toInt = 0 := by decide
      have e20 : (20 : Int32).toInt = 20 := by decide
      cases q1 : m_cmp .le (beh J t (trip J t)) 0 with
      | true => exact (show 0 ≤ (0 : Int32).toInt ∧ (0 : Int32).toInt ≤ 20 from by decide)
      | false =>
        cases q2 : m_cmp .ge (beh J t (trip J t)) 20 with
        | true => exact (show 0 ≤ (20 : Int32).toInt ∧ (20 : Int32).toInt ≤ 20 from by decide)
        | false =>
          (try dsimp only [nT, nF, cT, cF])
          have q1 := m_ff mle_iff q1
          have q2 := m_ff m_ge_iff q2
          omega
theorem offA {p : Int32} (h : 0 ≤ p.toInt ∧ p.toInt ≤ 20) : (if 0 ≤ (p - 10) then (p - 10) else 0 - (p - 10)) = offP p := by
  have e0 : (0 : Int32).toInt = 0 := by decide
  have e10 : (10 : Int32).toInt = 10 := by decide
  have d : (p - 10).toInt = p.toInt - 10 := (i32_sub (by omega) (by omega)).trans (by omega)
  have d2 : (10 - p).toInt = 10 - p.toInt := (i32_sub (by omega) (by omega)).trans (by omega)
  have d3 : (0 - (p - 10)).toInt = 10 - p.toInt := (i32_sub (by omega) (by omega)).trans (by omega)
  unfold offP
  by_cases q : 10 ≤ p.toInt
  · rw [if_pos (Int32.le_iff_toInt_le.mpr (by omega)), m_ge_iff.mpr (by omega)]; (try dsimp only [nT, nF, cT, cF])
  · rw [if_neg (fun w => by have := Int32.le_iff_toInt_le.mp w; omega)]
    cases w : m_cmp .ge p 10 with
    | true => have := m_ge_iff.mp w; omega
    | false =>
      (try dsimp only [nT, nF, cT, cF])
      exact Int32.toInt_inj.mp (by omega)
theorem maxB (a o : Int32) : (if a < o then o else a) = (bif m_cmp .le o a then a else o) := by
  by_cases q : a < o
  · rw [if_pos q]
    cases w : m_cmp .le o a with
    | false => rfl
    | true =>
      have := mle_iff.mp w
      have := Int32.lt_iff_toInt_lt.mp q
      omega
  · rw [if_neg q, mle_iff.mpr (by have w : ¬ a.toInt < o.toInt := fun w => q (Int32.lt_iff_toInt_lt.mpr w); omega)]; (try dsimp only [nT, nF, cT, cF])
theorem or0 (x : Int32) : x ||| 0 = x := by
  apply Int32.toBitVec_inj.mp
  show x.toBitVec ||| 0#32 = x.toBitVec
  exact BitVec.or_zero
section QRY
variable {z : SG} {J : TI}
theorem fa_a (h : OuC_a J 24 z) : F_firstAground_a z = gfi J 24 := fstG (f := z 20) (B := B_firstAground_a_2 z) (fun t ht => (h t ht).2.2.2.2.1) (fun _ _ => rfl) 24 0 rfl rfl
theorem ma_a (h : OuC_a J 24 z) : F_minutesAground_a z = gma J 24 := itr_cong (fun i x hi => by
  show x + z 20 i = x + gr' J i (trip J i)
  rw [(h i hi).2.2.2.2.1]) 24 (Nat.le_refl _)
theorem ls_a (h : OuC_a J 24 z) : F_lastStray_a z = offP (spl' (trip J 24)) := by
  have e : z 17 23 = spl' (trip J 24) := (h 23 (by omega)).2.1
  unfold F_lastStray_a
  rw [e]
  exact offA (plB J 24)
theorem fs_a (h : OuC_a J 24 z) : F_farthestStray_a z = far J 24 := itr_cong (fun i x hi => by
  show (if x < (if 0 ≤ ((z 17 i) - 10) then ((z 17 i) - 10) else 0 - ((z 17 i) - 10)) then (if 0 ≤ ((z 17 i) - 10) then ((z 17 i) - 10) else 0 - ((z 17 i) - 10)) else x) = bif m_cmp .le (offP (spl' (trip J (i + 1)))) x then x else offP (spl' (trip J (i + 1)))
  rw [(h i hi).2.1, offA (plB J (i + 1)), maxB]) 24 (Nat.le_refl _)
end QRY
theorem rdK {s : SG} (h : KG s) : KG (F_reads s) ∧ inC_a (F_reads s) 255 = inC_a s 255 ∧ F_reads s 10 0 = s 10 0 := by
  have f := fr_reads s
  exact ⟨h.ag (f.ag DG rfl), inC_ag (f.ag DJ rfl) 255, f 10 0 rfl⟩
theorem i2n {m : Nat} (h : m < 24) : (2 * Int32.ofNat m).toNatClampNeg = 2 * m := by
  rw [show 2 * Int32.ofNat m = Int32.ofNat (2 * m) from ofn_mul rfl rfl]
  exact ofn_c (by omega)
theorem i2n1 {m : Nat} (h : m < 24) : ((2 * Int32.ofNat m) + 1).toNatClampNeg = 2 * m + 1 := by
  rw [show (2 * Int32.ofNat m) + 1 = Int32.ofNat (2 * m + 1) from ofn_add (ofn_mul rfl rfl) rfl]
  exact ofn_c (by omega)
theorem bl_5 {v : Int32} : bl v 5 = true ↔ v = 0 ∨ v = 1 ∨ v = 2 ∨ v = 3 ∨ v = 4 := by
  constructor
  · intro h
    obtain ⟨h1, h2⟩ := bl_iff.mp h
    have e : (5 : Int32).toInt = 5 := by decide
    have q : v.toInt = (0 : Int32).toInt ∨ v.toInt = (1 : Int32).toInt ∨ v.toInt = (2 : Int32).toInt ∨ v.toInt = (3 : Int32).toInt ∨ v.toInt = (4 : Int32).toInt := by
      have e0 : (0 : Int32).toInt = 0 := by decide
      have e1 : (1 : Int32).toInt = 1 := by decide
      have e2 : (2 : Int32).toInt = 2 := by decide
      have e3 : (3 : Int32).toInt = 3 := by decide
      have e4 : (4 : Int32).toInt = 4 := by decide
      omega
    rcases q with q | q | q | q | q
    · exact Or.inl (Int32.toInt_inj.mp q)
    · exact Or.inr (Or.inl (Int32.toInt_inj.mp q))
    · exact Or.inr (Or.inr (Or.inl (Int32.toInt_inj.mp q)))
    · exact Or.inr (Or.inr (Or.inr (Or.inl (Int32.toInt_inj.mp q))))
    · exact Or.inr (Or.inr (Or.inr (Or.inr (Int32.toInt_inj.mp q))))
  · intro h
    rcases h with rfl | rfl | rfl | rfl | rfl <;> rfl
/-- a call: alike answers, all kept alike -/
def QK (c : Int32 × SG) (m : SG → Int32 × SG) : Prop := KF (m c.2).2 ∧ c.1 = (m c.2).1
theorem q_at {s : SG} (h : KF s) (mi wh : Int32) : QK (F_cat s mi wh) (fun y => F_at y mi wh) := by
  suffices k : KF (F_cat s mi wh).2 ∧ (F_cat s mi wh).1 = (F_at (F_cat s mi wh).2 mi wh).1 from ⟨k.1.ag ((fr_at _ mi wh).ag DF rfl), k.2⟩
  have eC : F_cat s mi wh = bif m_cmp .ne (F_isBelow s mi 24) 0 then (bif m_cmp .eq wh 0 then ((F_toldTrip s 16 mi.toNatClampNeg, F_toldTrip s)) else (bif m_cmp .eq wh 1 then ((F_toldTrip s 17 mi.toNatClampNeg, F_toldTrip s)) else (bif m_cmp .eq wh 2 then ((F_toldTrip s 18 mi.toNatClampNeg, F_toldTrip s)) else (bif m_cmp .eq wh 3 then ((F_toldTrip s 19 mi.toNatClampNeg, F_toldTrip s)) else (bif m_cmp .eq wh 4 then ((F_toldTrip s 20 mi.toNatClampNeg, F_toldTrip s)) else (((-2), F_toldTrip s))))))) else (((-2), s)) := rfl
  have eM : ∀ y, F_at y mi wh = bif m_cmp .eq (F_isMinute y mi) 0 then ((-2 : Int32), y) else (bif m_cmp .eq (F_in y wh 0 4) 0 then ((-2 : Int32), y) else (F_atOf y mi wh)) := fun _ => rfl
  have eA : ∀ y, F_atOf y mi wh = bif m_cmp .eq wh 0 then ((F_runsTold y 139 mi.toNatClampNeg, F_runsTold y)) else (bif m_cmp .eq wh 1 then ((F_runsTold y 140 mi.toNatClampNeg, F_runsTold y)) else (bif m_cmp .eq wh 2 then ((F_runsTold y 141 ((2 * mi).toNatClampNeg), F_runsTold y)) else (bif m_cmp .eq wh 3 then ((F_runsTold y 141 (((2 * mi) + 1).toNatClampNeg), F_runsTold y)) else ((F_runsTold y 142 mi.toNatClampNeg, F_runsTold y))))) := fun _ => rfl
  rw [eC, bl_n]
  cases q : bl mi 24 with
  | false =>
    (try dsimp only [nT, nF, cT, cF])
    show KF s ∧ -2 = (F_at s mi wh).1
    rw [eM, isM_e, q]; (try dsimp only [nT, nF, cT, cF])
    exact ⟨h, rfl⟩
  | true =>
    (try dsimp only [nT, nF, cT, cF])
    obtain ⟨t1, t2, t3⟩ := tt h
    generalize F_toldTrip s = z at *
    obtain ⟨em, lm⟩ := bl_ofn q
    have lm : mi.toNatClampNeg < 24 := lm
    have R := (rt t1.1).1
    obtain ⟨-, -, -, -, -, -, -, o⟩ := R
    obtain ⟨o1, o2, o3, o4, o5, -⟩ := o _ lm
    obtain ⟨c1, c2, c3, c4, c5, -⟩ := t2.1 _ lm
    have j2 : (2 * mi).toNatClampNeg = 2 * mi.toNatClampNeg := by
      rw [em, i2n (by omega), ← em]
    have j3 : ((2 * mi) + 1).toNatClampNeg = 2 * mi.toNatClampNeg + 1 := by
      rw [em, i2n1 (by omega), ← em]
    cases w : bl wh 5 with
    | false =>
      have n : ∀ k, k < 5 → m_cmp .eq wh (Int32.ofNat k) = false := fun k hk => by
        cases p : m_cmp .eq wh (Int32.ofNat k) with
        | false => rfl
        | true =>
          have p := m_eq_iff.mp p
          have b : bl wh 5 = true := by
            rw [p]
            exact (show ∀ k, k < 5 → bl (Int32.ofNat k) 5 = true from by decide) k hk
          rw [w] at b
          cases b
      rw [show m_cmp .eq wh 0 = false from n 0 (by omega), show m_cmp .eq wh 1 = false from n 1 (by omega), show m_cmp .eq wh 2 = false from n 2 (by omega), show m_cmp .eq wh 3 = false from n 3 (by omega), show m_cmp .eq wh 4 = false from n 4 (by omega)]; (try dsimp only [nT, nF, cT, cF])
      show KF z ∧ -2 = (F_at z mi wh).1
      rw [eM, isM_e, q, in_e z wh 4 5 rfl, w]; (try dsimp only [nT, nF, cT, cF])
      exact ⟨t1, rfl⟩
    | true =>
      have eM2 : F_at z mi wh = F_atOf z mi wh := by rw [eM, isM_e, q, in_e z wh 4 5 rfl, w, nT, cF, cF]
      rcases bl_5.mp w with e | e | e | e | e
      · rw [show m_cmp .eq wh 0 = true by rw [e]; rfl]; (try dsimp only [nT, nF, cT, cF])
        show KF z ∧ z 16 _ = (F_at z mi wh).1
        rw [eM2, eA, show m_cmp .eq wh 0 = true by rw [e]; rfl]; (try dsimp only [nT, nF, cT, cF])
        exact ⟨t1, c1.trans o1.symm⟩
      · rw [show m_cmp .eq wh 0 = false by rw [e]; rfl]; (try dsimp only [nT, nF, cT, cF]); rw [show m_cmp .eq wh 1 = true by rw [e]; rfl]; (try dsimp only [nT, nF, cT, cF])
        show KF z ∧ z 17 _ = (F_at z mi wh).1
        rw [eM2, eA, show m_cmp .eq wh 0 = false by rw [e]; rfl]; (try dsimp only [nT, nF, cT, cF]); rw [show m_cmp .eq wh 1 = true by rw [e]; rfl]; (try dsimp only [nT, nF, cT, cF])
        exact ⟨t1, c2.trans o2.symm⟩
      · rw [show m_cmp .eq wh 0 = false by rw [e]; rfl]; (try dsimp only [nT, nF, cT, cF]); rw [show m_cmp .eq wh 1 = false by rw [e]; rfl]; (try dsimp only [nT, nF, cT, cF]); rw [show m_cmp .eq wh 2 = true by rw [e]; rfl]; (try dsimp only [nT, nF, cT, cF])
        show KF z ∧ z 18 _ = (F_at z mi wh).1
        rw [eM2, eA, show m_cmp .eq wh 0 = false by rw [e]; rfl]; (try dsimp only [nT, nF, cT, cF]); rw [show m_cmp .eq wh 1 = false by rw [e]; rfl]; (try dsimp only [nT, nF, cT, cF]); rw [show m_cmp .eq wh 2 = true by rw [e]; rfl]; (try dsimp only [nT, nF, cT, cF]); rw [j2]
        exact ⟨t1, c3.trans o3.symm⟩
      · rw [show m_cmp .eq wh 0 = false by rw [e]; rfl]; (try dsimp only [nT, nF, cT, cF]); rw [show m_cmp .eq wh 1 = false by rw [e]; rfl]; (try dsimp only [nT, nF, cT, cF]); rw [show m_cmp .eq wh 2 = false by rw [e]; rfl]; (try dsimp only [nT, nF, cT, cF]); rw [show m_cmp .eq wh 3 = true by rw [e]; rfl]; (try dsimp only [nT, nF, cT, cF])
        show KF z ∧ z 19 _ = (F_at z mi wh).1
        rw [eM2, eA, show m_cmp .eq wh 0 = false by rw [e]; rfl]; (try dsimp only [nT, nF, cT, cF]); rw [show m_cmp .eq wh 1 = false by rw [e]; rfl]; (try dsimp only [nT, nF, cT, cF]); rw [show m_cmp .eq wh 2 = false by rw [e]; rfl]; (try dsimp only [nT, nF, cT, cF]); rw [show m_cmp .eq wh 3 = true by rw [e]; rfl]; (try dsimp only [nT, nF, cT, cF]); rw [j3]
        exact ⟨t1, c4.trans o4.symm⟩
      · rw [show m_cmp .eq wh 0 = false by rw [e]; rfl]; (try dsimp only [nT, nF, cT, cF]); rw [show m_cmp .eq wh 1 = false by rw [e]; rfl]; (try dsimp only [nT, nF, cT, cF]); rw [show m_cmp .eq wh 2 = false by rw [e]; rfl]; (try dsimp only [nT, nF, cT, cF]); rw [show m_cmp .eq wh 3 = false by rw [e]; rfl]; (try dsimp only [nT, nF, cT, cF]); rw [show m_cmp .eq wh 4 = true by rw [e]; rfl]; (try dsimp only [nT, nF, cT, cF])
        show KF z ∧ z 20 _ = (F_at z mi wh).1
        rw [eM2, eA, show m_cmp .eq wh 0 = false by rw [e]; rfl]; (try dsimp only [nT, nF, cT, cF]); rw [show m_cmp .eq wh 1 = false by rw [e]; rfl]; (try dsimp only [nT, nF, cT, cF]); rw [show m_cmp .eq wh 2 = false by rw [e]; rfl]; (try dsimp only [nT, nF, cT, cF]); rw [show m_cmp .eq wh 3 = false by rw [e]; rfl]; (try dsimp only [nT, nF, cT, cF])
        exact ⟨t1, c5.trans o5.symm⟩
theorem q_there {s : SG} (h : KF s) : QK (F_cthere s) (fun y => F_there y) := by
  suffices k : KF (F_cthere s).2 ∧ (F_cthere s).1 = (F_there (F_cthere s).2).1 from ⟨k.1.ag ((fr_there _).ag DF rfl), k.2⟩
  have eC : F_cthere s = (F_toldTrip s 15 8, F_toldTrip s) := rfl
  have eM : ∀ y, F_there y = (F_runsTold y 123 21, F_runsTold y) := fun _ => rfl
  obtain ⟨t1, t2, t3⟩ := tt h
  rw [eC]
  generalize F_toldTrip s = z at *
  refine ⟨t1, ?_⟩
  show z 15 8 = (F_there z).1
  rw [eM]
  (try dsimp only)
  exact t2.2.1.trans (rt t1.1).1.2.2.1.symm
theorem q_grounded {s : SG} (h : KF s) (w : Int32) : QK (F_cgrounded s w) (fun y => F_grounded y w) := by
  suffices k : KF (F_cgrounded s w).2 ∧ (F_cgrounded s w).1 = (F_grounded (F_cgrounded s w).2 w).1 from ⟨k.1.ag ((fr_grounded _ w).ag DF rfl), k.2⟩
  have eC : F_cgrounded s w = bif m_cmp .ne (F_isBelow s w 2) 0 then (bif m_cmp .ne w 0 then F_firstAground_a (F_toldTrip s) else F_minutesAground_a (F_toldTrip s), F_toldTrip s) else ((-2), s) := rfl
  have eM : ∀ y, F_grounded y w = bif m_cmp .eq (F_isTwo y w) 0 then ((-2 : Int32), y) else (bif m_cmp .ne w 0 then F_runsTold y 123 23 else F_runsTold y 123 22, F_runsTold y) := fun _ => rfl
  rw [eC, bl_n]
  cases q : bl w 2 with
  | false =>
    (try dsimp only [nT, nF, cT, cF])
    show KF s ∧ -2 = (F_grounded s w).1
    rw [eM, is2_e, q]; (try dsimp only [nT, nF, cT, cF])
    exact ⟨h, rfl⟩
  | true =>
    (try dsimp only [nT, nF, cT, cF])
    obtain ⟨t1, t2, t3⟩ := tt h
    generalize F_toldTrip s = z at *
    refine ⟨t1, ?_⟩
    show (bif m_cmp .ne w 0 then F_firstAground_a z else F_minutesAground_a z) = (F_grounded z w).1
    rw [eM, is2_e, q]; (try dsimp only [nT, nF, cT, cF]); rw [fa_a t2.1, ma_a t2.1]
    (try dsimp only)
    rw [(rt t1.1).1.2.2.2.1, (rt t1.1).1.2.2.2.2.1]
theorem q_stray {s : SG} (h : KF s) (w : Int32) : QK (F_cstray s w) (fun y => F_stray y w) := by
  suffices k : KF (F_cstray s w).2 ∧ (F_cstray s w).1 = (F_stray (F_cstray s w).2 w).1 from ⟨k.1.ag ((fr_stray _ w).ag DF rfl), k.2⟩
  have eC : F_cstray s w = bif m_cmp .ne (F_isBelow s w 2) 0 then (bif m_cmp .ne w 0 then F_farthestStray_a (F_toldTrip s) else F_lastStray_a (F_toldTrip s), F_toldTrip s) else ((-2), s) := rfl
  have eM : ∀ y, F_stray y w = bif m_cmp .eq (F_isTwo y w) 0 then ((-2 : Int32), y) else (bif m_cmp .ne w 0 then F_runsTold y 123 24 else F_strayNow (F_runsTold y), F_runsTold y) := fun _ => rfl
  have eN : ∀ y : SG, F_strayNow y = offP (y 123 20) := fun _ => rfl
  rw [eC, bl_n]
  cases q : bl w 2 with
  | false =>
    (try dsimp only [nT, nF, cT, cF])
    show KF s ∧ -2 = (F_stray s w).1
    rw [eM, is2_e, q]; (try dsimp only [nT, nF, cT, cF])
    exact ⟨h, rfl⟩
  | true =>
    (try dsimp only [nT, nF, cT, cF])
    obtain ⟨t1, t2, t3⟩ := tt h
    generalize F_toldTrip s = z at *
    refine ⟨t1, ?_⟩
    show (bif m_cmp .ne w 0 then F_farthestStray_a z else F_lastStray_a z) = (F_stray z w).1
    rw [eM, is2_e, q]; (try dsimp only [nT, nF, cT, cF]); rw [fs_a t2.1, ls_a t2.1]
    (try dsimp only)
    rw [eN, (rt t1.1).1.2.2.2.2.2.1, (rt t1.1).1.2.1]
theorem q_idle {s : SG} (h : KF s) : QK (F_cidle s) (fun y => F_idle y) := by
  suffices k : KF (F_cidle s).2 ∧ (F_cidle s).1 = (F_idle (F_cidle s).2).1 from ⟨k.1.ag ((fr_idle _).ag DF rfl), k.2⟩
  have eC : F_cidle s = (itr (B_cidle_7 (F_toldTrip s)) 0 ((F_toldTrip s 10 0).toNatClampNeg) (0 : Int32), F_toldTrip s) := rfl
  have eM : ∀ y, F_idle y = (itr (B_idleOf_6 (F_runsTold y)) 0 ((F_runsTold y 123 2).toNatClampNeg) (0 : Int32), F_runsTold y) := fun _ => rfl
  obtain ⟨t1, t2, t3⟩ := tt h
  rw [eC]
  generalize F_toldTrip s = z at *
  refine ⟨t1, ?_⟩
  show itr (B_cidle_7 z) 0 ((z 10 0).toNatClampNeg) (0 : Int32) = (F_idle z).1
  rw [eM]
  (try dsimp only)
  obtain ⟨R, R2⟩ := rt t1.1
  rw [R2]
  refine itr_cong (fun i x hi => ?_) _ (Nat.le_refl _)
  have a1 := (t2.2.2 i hi).1
  have a2 := (R.2.2.2.2.2.2.1 i hi).1
  show (bif m_cmp .ne (z 46 i) 0 then x else (x ||| (1 <<< ((Int32.ofNat i) &&& 31)))) = x ||| (bif m_cmp .ne (F_runsTold z 137 i) 0 then (0 : Int32) else 1 <<< ((Int32.ofNat i) &&& 31))
  rw [a1, a2]
  cases m_cmp .ne (smn (trip (inC_a z 255) 24) i) 0
  · rfl
  · exact (or0 x).symm
theorem q_pulls {s : SG} (h : KF s) (mi k : Int32) : QK (F_cpulls s mi k) (fun y => F_pulls y mi k) := by
  suffices w : KF (F_cpulls s mi k).2 ∧ (F_cpulls s mi k).1 = (F_pulls (F_cpulls s mi k).2 mi k).1 from ⟨w.1.ag ((fr_pulls _ mi k).ag DF rfl), w.2⟩
  have eC : F_cpulls s mi k = bif m_cmp .eq (F_isBelow s mi 24) 0 then (((-2), s)) else (bif m_cmp .ne (F_cisRower s k) 0 then (F_toldTrip s (22 + mi.toNatClampNeg) k.toNatClampNeg, F_toldTrip s) else (((-2), s))) := rfl
  have eM : ∀ y, F_pulls y mi k = bif m_cmp .eq (F_isMinute y mi) 0 then ((-2 : Int32), y) else (bif m_cmp .eq (F_isRower y k).1 0 then ((-2 : Int32), (F_isRower y k).2) else (F_pullsOf (F_isRower y k).2 mi k)) := fun _ => rfl
  rw [eC, bl_e, cisR_n]
  cases q : bl mi 24 with
  | false =>
    (try dsimp only [nT, nF, cT, cF])
    show KF s ∧ -2 = (F_pulls s mi k).1
    rw [eM, isM_e, q]; (try dsimp only [nT, nF, cT, cF])
    exact ⟨h, rfl⟩
  | true =>
    (try dsimp only [nT, nF, cT, cF])
    cases q2 : bl k (s 10 0) with
    | false =>
      (try dsimp only [nT, nF, cT, cF])
      show KF s ∧ -2 = (F_pulls s mi k).1
      rw [eM, isM_e, q]; (try dsimp only [nT, nF, cT, cF]); rw [(isRw h.1.1.1 h.1.2.1 k).1, q2]; (try dsimp only [nT, nF, cT, cF])
      exact ⟨h, rfl⟩
    | true =>
      (try dsimp only [nT, nF, cT, cF])
      obtain ⟨t1, t2, t3⟩ := tt h
      have e10 : F_toldTrip s 10 0 = s 10 0 := t3 10 0 rfl
      rw [← e10] at q2
      generalize F_toldTrip s = z at *
      refine ⟨t1, ?_⟩
      show z (22 + mi.toNatClampNeg) k.toNatClampNeg = (F_pulls z mi k).1
      obtain ⟨i1, i2⟩ := isRw t1.1.1.1 t1.1.2.1 k
      rw [eM, isM_e, q]; (try dsimp only [nT, nF, cT, cF]); rw [i1, q2]; (try dsimp only [nT, nF, cT, cF]); rw [i2]
      obtain ⟨em, lm⟩ := bl_ofn q
      have lm : mi.toNatClampNeg < 24 := lm
      obtain ⟨ek, lk⟩ := bl_ofn q2
      have h8 := row8 t1.1.1.1 t1.1.2.1.1
      have lk : k.toNatClampNeg < (z 10 0).toNatClampNeg := lk
      obtain ⟨g, gi, -⟩ := rdK t1.1
      have R := (rt g).1
      rw [gi] at R
      have eP : F_pullsOf (F_reads z) mi k = (F_runsTold (F_reads z) 143 (((8 * mi) + k).toNatClampNeg), F_runsTold (F_reads z)) := rfl
      rw [eP]
      (try dsimp only)
      have j8 : ((8 * mi) + k).toNatClampNeg = 8 * mi.toNatClampNeg + k.toNatClampNeg := by
        rw [em, ek, idx8 lm (by omega), ← em, ← ek]
      rw [j8, (t2.1 _ lm).2.2.2.2.2 _ lk]
      exact ((R.2.2.2.2.2.2.2 _ lm).2.2.2.2.2 _ lk).symm
theorem q_done {s : SG} (h : KF s) (k w : Int32) : QK (F_cdone s k w) (fun y => F_done y k w) := by
  suffices x : KF (F_cdone s k w).2 ∧ (F_cdone s k w).1 = (F_done (F_cdone s k w).2 k w).1 from ⟨x.1.ag ((fr_done _ k w).ag DF rfl), x.2⟩
  have eC : F_cdone s k w = bif m_cmp .eq (F_cisRower s k) 0 then (((-2), s)) else (bif m_cmp .ne (F_isBelow s w 2) 0 then (bif m_cmp .ne w 0 then F_toldTrip s 47 k.toNatClampNeg else F_toldTrip s 46 k.toNatClampNeg, F_toldTrip s) else (((-2), s))) := rfl
  have eM : ∀ y, F_done y k w = bif m_cmp .eq (F_isRower y k).1 0 then ((-2 : Int32), (F_isRower y k).2) else (bif m_cmp .eq (F_isTwo (F_isRower y k).2 w) 0 then ((-2 : Int32), (F_isRower y k).2) else (F_doneOf (F_isRower y k).2 k w)) := fun _ => rfl
  rw [eC, bl_n, cisR_e]
  cases q : bl k (s 10 0) with
  | false =>
    (try dsimp only [nT, nF, cT, cF])
    show KF s ∧ -2 = (F_done s k w).1
    rw [eM, (isRw h.1.1.1 h.1.2.1 k).1, q]; (try dsimp only [nT, nF, cT, cF])
    exact ⟨h, rfl⟩
  | true =>
    (try dsimp only [nT, nF, cT, cF])
    cases q2 : bl w 2 with
    | false =>
      (try dsimp only [nT, nF, cT, cF])
      show KF s ∧ -2 = (F_done s k w).1
      rw [eM, (isRw h.1.1.1 h.1.2.1 k).1, q]; (try dsimp only [nT, nF, cT, cF]); rw [is2_e, q2]; (try dsimp only [nT, nF, cT, cF])
      exact ⟨h, rfl⟩
    | true =>
      (try dsimp only [nT, nF, cT, cF])
      obtain ⟨t1, t2, t3⟩ := tt h
      have e10 : F_toldTrip s 10 0 = s 10 0 := t3 10 0 rfl
      rw [← e10] at q
      generalize F_toldTrip s = z at *
      refine ⟨t1, ?_⟩
      show (bif m_cmp .ne w 0 then z 47 k.toNatClampNeg else z 46 k.toNatClampNeg) = (F_done z k w).1
      obtain ⟨i1, i2⟩ := isRw t1.1.1.1 t1.1.2.1 k
      rw [eM, i1, q]; (try dsimp only [nT, nF, cT, cF]); rw [is2_e, q2]; (try dsimp only [nT, nF, cT, cF]); rw [i2]
      have lk : k.toNatClampNeg < (z 10 0).toNatClampNeg := (bl_ofn q).2
      obtain ⟨g, gi, -⟩ := rdK t1.1
      have R := (rt g).1
      rw [gi] at R
      have eP : F_doneOf (F_reads z) k w = (bif m_cmp .ne w 0 then F_runsTold (F_reads z) 138 k.toNatClampNeg else F_runsTold (F_reads z) 137 k.toNatClampNeg, F_runsTold (F_reads z)) := rfl
      rw [eP]
      (try dsimp only)
      rw [(t2.2.2 _ lk).1, (t2.2.2 _ lk).2]
      have r7 := R.2.2.2.2.2.2.1 _ lk
      rw [r7.1, r7.2]
/-- best: what is kept stays alike -/
theorem k_best {s : SG} (h : KF s) : KF (F_best (F_cbest s).2).2 := by
  have eC : (F_cbest s).2 = F_toldTrip s := rfl
  rw [eC]
  exact (tt h).1.ag ((fr_best _).ag DF rfl)
end
section
/-! river, event, back, seen, forget -/
theorem lt8 {N : Nat} (h : N ≤ 8) : m_cmp .lt (Int32.ofNat N) 8 = m_cmp .ne (Int32.ofNat N) 8 := (show ∀ N, N < 9 → m_cmp .lt (Int32.ofNat N) 8 = m_cmp .ne (Int32.ofNat N) 8 from by decide) N (by omega)
theorem ne8 {N : Nat} (h : N ≤ 8) (q : m_cmp .ne (Int32.ofNat N) 8 = true) : N < 8 := by
  apply Decidable.byContradiction
  intro w
  have w : N = 8 := by omega
  rw [w] at q
  cases q
theorem q_event {s : SG} (h : KF s) (kd mi nu : Int32) : QK (F_cevent s kd mi nu) (fun y => F_event y kd mi nu) := by
  obtain ⟨⟨hU, hC, hE, hS, hH⟩, hX⟩ := h
  obtain ⟨E1, E2, E3, E4, E5, E6, E7⟩ := hE
  obtain ⟨N, hN, eN⟩ := lenO E2 E3
  have eN2 : s 123 11 = Int32.ofNat N := E1.symm.trans eN
  have cN : (Int32.ofNat N).toNatClampNeg = N := ofn_c (by omega)
  have eC : F_cevent s kd mi nu = bif m_cmp .eq (F_isBelow s kd 3) 0 then (((-2), s)) else (bif m_cmp .eq (F_isBelow s mi 24) 0 then (((-2), s)) else (bif m_cmp .ne (F_isBelow s nu 8) 0 then (bif m_cmp .lt (s 2 3) 8 then (s 2 3 + 1, F_mark (uset (uset (uset (uset s 3 ((s 2 3).toNatClampNeg) kd) 4 ((s 2 3).toNatClampNeg) mi) 5 ((s 2 3).toNatClampNeg) nu) 2 3 (s 2 3 + 1))) else (((-4), s))) else (((-2), s)))) := rfl
  have eM : ∀ y, F_event y kd mi nu = bif m_cmp .eq (F_isThree y kd) 0 then (((-2), y)) else (bif m_cmp .eq (F_isMinute y mi) 0 then (((-2), y)) else (bif m_cmp .ne (F_isEight y nu) 0 then (bif m_cmp .ne (y 123 11) 8 then (y 123 11 + 1, uset (uset (uset (uset y 130 ((y 123 11).toNatClampNeg) kd) 131 ((y 123 11).toNatClampNeg) mi) 132 ((y 123 11).toNatClampNeg) nu) 123 11 (y 123 11 + 1)) else (((-4), y))) else (((-2), y)))) := fun _ => rfl
  have same : ∀ v : Int32, F_cevent s kd mi nu = (v, s) → F_event s kd mi nu = (v, s) → QK (F_cevent s kd mi nu) (fun y => F_event y kd mi nu) := fun v a b => by
    unfold QK
    rw [a]
    show KF (F_event s kd mi nu).2 ∧ v = (F_event s kd mi nu).1
    rw [b]
    exact ⟨⟨⟨hU, hC, ⟨E1, E2, E3, E4, E5, E6, E7⟩, hS, hH⟩, hX⟩, rfl⟩
  rw [bl_e, bl_e, bl_n, eN, cN, lt8 hN] at eC
  have eS := eM s
  rw [is3_e, isM_e, is8_n, eN2, cN] at eS
  cases q1 : bl kd 3 with
  | false =>
    rw [q1] at eC eS; (try dsimp only [nT, nF, cT, cF] at eC eS)
    exact same _ eC eS
  | true =>
    cases q2 : bl mi 24 with
    | false =>
      rw [q1, q2] at eC eS; (try dsimp only [nT, nF, cT, cF] at eC eS)
      exact same _ eC eS
    | true =>
      cases q3 : bl nu 8 with
      | false =>
        rw [q1, q2, q3] at eC eS; (try dsimp only [nT, nF, cT, cF] at eC eS)
        exact same _ eC eS
      | true =>
        cases q4 : m_cmp .ne (Int32.ofNat N) 8 with
        | false =>
          rw [q1, q2, q3, q4] at eC eS; (try dsimp only [nT, nF, cT, cF] at eC eS)
          exact same _ eC eS
        | true =>
          have l8 := ne8 hN q4
          rw [q1, q2, q3, q4] at eC; (try dsimp only [nT, nF, cT, cF] at eC); rw [ofn_s] at eC
          unfold QK
          rw [eC]
          have fu : Fr [(3, 5, none), (2, 2, some 3)] s (uset (uset (uset (uset s 3 N kd) 4 N mi) 5 N nu) 2 3 (Int32.ofNat (N + 1))) := Fr.uset rfl (Fr.uset rfl (Fr.uset rfl (Fr.uset rfl (Fr.rf _ _))))
          have u2 : uset (uset (uset (uset s 3 N kd) 4 N mi) 5 N nu) 2 3 (Int32.ofNat (N + 1)) 2 3 = Int32.ofNat (N + 1) := uset_eq _ _ _ _
          have u3 : ∀ e, uset (uset (uset (uset s 3 N kd) 4 N mi) 5 N nu) 2 3 (Int32.ofNat (N + 1)) 3 e = if e = N then kd else s 3 e := fun e => by
            rw [uset_na (by decide), uset_na (by decide), uset_na (by decide)]
            by_cases w : e = N
            · rw [if_pos w, w]; exact uset_eq _ _ _ _
            · rw [if_neg w]; exact uset_nj w
          have u4 : ∀ e, uset (uset (uset (uset s 3 N kd) 4 N mi) 5 N nu) 2 3 (Int32.ofNat (N + 1)) 4 e = if e = N then mi else s 4 e := fun e => by
            rw [uset_na (by decide), uset_na (by decide)]
            by_cases w : e = N
            · rw [if_pos w, w]; exact uset_eq _ _ _ _
            · rw [if_neg w, uset_nj w]; exact uset_na (by decide)
          have u5 : ∀ e, uset (uset (uset (uset s 3 N kd) 4 N mi) 5 N nu) 2 3 (Int32.ofNat (N + 1)) 5 e = if e = N then nu else s 5 e := fun e => by
            rw [uset_na (by decide)]
            by_cases w : e = N
            · rw [if_pos w, w]; exact uset_eq _ _ _ _
            · rw [if_neg w, uset_nj w, uset_na (by decide)]; exact uset_na (by decide)
          generalize uset (uset (uset (uset s 3 N kd) 4 N mi) 5 N nu) 2 3 (Int32.ofNat (N + 1)) = u at *
          have fm := fr_mark u
          have x12 : F_mark u 0 12 = 1 := rfl
          have x13 : F_mark u 0 13 = 1 := rfl
          generalize F_mark u = c at *
          have c11 : c 123 11 = Int32.ofNat N := (fm 123 11 rfl).trans ((fu 123 11 rfl).trans eN2)
          show KF (F_event c kd mi nu).2 ∧ Int32.ofNat (N + 1) = (F_event c kd mi nu).1
          rw [eM, is3_e, isM_e, is8_n, c11, cN, q1, q2, q3, q4]; (try dsimp only [nT, nF, cT, cF]); rw [ofn_s]
          show KF (uset (uset (uset (uset c 130 N kd) 131 N mi) 132 N nu) 123 11 (Int32.ofNat (N + 1))) ∧ Int32.ofNat (N + 1) = Int32.ofNat (N + 1)
          have ff : Fr [(130, 132, none), (123, 123, some 11)] c (uset (uset (uset (uset c 130 N kd) 131 N mi) 132 N nu) 123 11 (Int32.ofNat (N + 1))) := Fr.uset rfl (Fr.uset rfl (Fr.uset rfl (Fr.uset rfl (Fr.rf _ _))))
          have v2 : uset (uset (uset (uset c 130 N kd) 131 N mi) 132 N nu) 123 11 (Int32.ofNat (N + 1)) 123 11 = Int32.ofNat (N + 1) := uset_eq _ _ _ _
          have v3 : ∀ e, uset (uset (uset (uset c 130 N kd) 131 N mi) 132 N nu) 123 11 (Int32.ofNat (N + 1)) 130 e = if e = N then kd else c 130 e := fun e => by
            rw [uset_na (by decide), uset_na (by decide), uset_na (by decide)]
            by_cases w : e = N
            · rw [if_pos w, w]; exact uset_eq _ _ _ _
            · rw [if_neg w]; exact uset_nj w
          have v4 : ∀ e, uset (uset (uset (uset c 130 N kd) 131 N mi) 132 N nu) 123 11 (Int32.ofNat (N + 1)) 131 e = if e = N then mi else c 131 e := fun e => by
            rw [uset_na (by decide), uset_na (by decide)]
            by_cases w : e = N
            · rw [if_pos w, w]; exact uset_eq _ _ _ _
            · rw [if_neg w, uset_nj w]; exact uset_na (by decide)
          have v5 : ∀ e, uset (uset (uset (uset c 130 N kd) 131 N mi) 132 N nu) 123 11 (Int32.ofNat (N + 1)) 132 e = if e = N then nu else c 132 e := fun e => by
            rw [uset_na (by decide)]
            by_cases w : e = N
            · rw [if_pos w, w]; exact uset_eq _ _ _ _
            · rw [if_neg w, uset_nj w, uset_na (by decide)]; exact uset_na (by decide)
          generalize uset (uset (uset (uset c 130 N kd) 131 N mi) 132 N nu) 123 11 (Int32.ofNat (N + 1)) = f at *
          have ft : Fr [(3, 5, none), (2, 2, some 3), (0, 0, some 12), (0, 0, some 13), (130, 132, none), (123, 123, some 11)] s f := ((fu.wk rfl).tr (fm.wk rfl)).tr (ff.wk rfl)
          have y2 : f 2 3 = Int32.ofNat (N + 1) := (ff 2 3 rfl).trans ((fm 2 3 rfl).trans u2)
          have y3 : ∀ e, f 3 e = if e = N then kd else s 3 e := fun e => (ff 3 e rfl).trans ((fm 3 e rfl).trans (u3 e))
          have y4 : ∀ e, f 4 e = if e = N then mi else s 4 e := fun e => (ff 4 e rfl).trans ((fm 4 e rfl).trans (u4 e))
          have y5 : ∀ e, f 5 e = if e = N then nu else s 5 e := fun e => (ff 5 e rfl).trans ((fm 5 e rfl).trans (u5 e))
          have cN1 : (Int32.ofNat (N + 1)).toNatClampNeg = N + 1 := ofn_c (by omega)
          refine ⟨⟨⟨hU.ag (ft.ag DT rfl), hC.ag (ft.ag DC rfl), ⟨y2.trans v2.symm, ?_, ?_, fun e he => ⟨?_, ?_, ?_⟩, ?_, ?_, ?_⟩, hS.ag (ft.ag DS rfl), hH.ag (ft.ag DH rfl)⟩, KX.stale ((ff 0 12 rfl).trans x12) ((ff 0 13 rfl).trans x13)⟩, rfl⟩
          · rw [y2, ofn_int (by omega)]; omega
          · rw [y2, cN1]; omega
          · rw [y3, v3, (E4 e he).1, fm 130 e rfl, fu 130 e rfl]
          · rw [y4, v4, (E4 e he).2.1, fm 131 e rfl, fu 131 e rfl]
          · rw [y5, v5, (E4 e he).2.2, fm 132 e rfl, fu 132 e rfl]
          · intro e he
            rw [y2, cN1] at he
            rw [y3, y4]
            by_cases w : e = N
            · rw [if_pos w, if_pos w]
              obtain ⟨em, lm⟩ := bl_ofn q2
              exact ⟨bl_3.mp q1, _, lm, em⟩
            · rw [if_neg w, if_neg w]
              exact E5 e (by rw [eN, cN]; omega)
          · rw [ft 10 5 rfl, ft 123 9 rfl]; exact E6
          · rw [ft 10 6 rfl, ft 123 10 rfl]; exact E7
theorem q_back {s : SG} (h : KF s) : QK (F_cback s) (fun y => F_back y) := by
  obtain ⟨⟨hU, hC, hE, hS, hH⟩, hX⟩ := h
  obtain ⟨E1, E2, E3, E4, E5, E6, E7⟩ := hE
  obtain ⟨N, hN, eN⟩ := lenO E2 E3
  have eN2 : s 123 11 = Int32.ofNat N := E1.symm.trans eN
  have eC : F_cback s = bif m_cmp .ne (s 2 3) 0 then (s 2 3 - 1, F_mark (uset s 2 3 (s 2 3 - 1))) else (((-3), s)) := rfl
  have eM : ∀ y, F_back y = bif m_cmp .ne (y 123 11) 0 then (y 123 11 - 1, uset y 123 11 (y 123 11 - 1)) else (((-3), y)) := fun _ => rfl
  unfold QK
  rw [eN] at eC
  cases N with
  | zero =>
    have eC : F_cback s = ((-3), s) := eC
    rw [eC]
    show KF (F_back s).2 ∧ -3 = (F_back s).1
    have eS := eM s
    rw [eN2] at eS
    have eS : F_back s = ((-3), s) := eS
    rw [eS]
    exact ⟨⟨⟨hU, hC, ⟨E1, E2, E3, E4, E5, E6, E7⟩, hS, hH⟩, hX⟩, rfl⟩
  | succ M =>
    have e1 : Int32.ofNat (M + 1) - 1 = Int32.ofNat M := by
      rw [← ofn_s]
      exact Int32.add_sub_cancel _ _
    have e2 : m_cmp .ne (Int32.ofNat (M + 1)) 0 = true := m_ne_iff.mpr (fun w => by
      have w := congrArg Int32.toInt w
      rw [ofn_int (by omega)] at w
      have e : (0 : Int32).toInt = 0 := by decide
      omega)
    rw [e2, e1] at eC; (try dsimp only [nT, nF, cT, cF] at eC)
    rw [eC]
    have fu : Fr [(2, 2, some 3)] s (uset s 2 3 (Int32.ofNat M)) := Fr.uset rfl (Fr.rf _ _)
    have u2 : uset s 2 3 (Int32.ofNat M) 2 3 = Int32.ofNat M := uset_eq _ _ _ _
    generalize uset s 2 3 (Int32.ofNat M) = u at *
    have fm := fr_mark u
    have x12 : F_mark u 0 12 = 1 := rfl
    have x13 : F_mark u 0 13 = 1 := rfl
    generalize F_mark u = c at *
    have c11 : c 123 11 = Int32.ofNat (M + 1) := (fm 123 11 rfl).trans ((fu 123 11 rfl).trans eN2)
    show KF (F_back c).2 ∧ Int32.ofNat M = (F_back c).1
    rw [eM, c11, e2, e1]; (try dsimp only [nT, nF, cT, cF])
    show KF (uset c 123 11 (Int32.ofNat M)) ∧ Int32.ofNat M = Int32.ofNat M
    have ff : Fr [(123, 123, some 11)] c (uset c 123 11 (Int32.ofNat M)) := Fr.uset rfl (Fr.rf _ _)
    have v2 : uset c 123 11 (Int32.ofNat M) 123 11 = Int32.ofNat M := uset_eq _ _ _ _
    generalize uset c 123 11 (Int32.ofNat M) = f at *
    have ft : Fr [(2, 2, some 3), (0, 0, some 12), (0, 0, some 13), (123, 123, some 11)] s f := ((fu.wk rfl).tr (fm.wk rfl)).tr (ff.wk rfl)
    have y2 : f 2 3 = Int32.ofNat M := (ff 2 3 rfl).trans ((fm 2 3 rfl).trans u2)
    have cM : (Int32.ofNat M).toNatClampNeg = M := ofn_c (by omega)
    have cM1 : (Int32.ofNat (M + 1)).toNatClampNeg = M + 1 := ofn_c (by omega)
    refine ⟨⟨⟨hU.ag (ft.ag DT rfl), hC.ag (ft.ag DC rfl), ⟨y2.trans v2.symm, ?_, ?_, fun e he => ?_, ?_, ?_, ?_⟩, hS.ag (ft.ag DS rfl), hH.ag (ft.ag DH rfl)⟩, KX.stale ((ff 0 12 rfl).trans x12) ((ff 0 13 rfl).trans x13)⟩, rfl⟩
    · rw [y2, ofn_int (by omega)]; omega
    · rw [y2, cM]; omega
    · rw [ft 3 e rfl, ft 4 e rfl, ft 5 e rfl, ft 130 e rfl, ft 131 e rfl, ft 132 e rfl]; exact E4 e he
    · intro e he
      rw [y2, cM] at he
      rw [ft 3 e rfl, ft 4 e rfl]
      exact E5 e (by rw [eN, cM1]; omega)
    · rw [ft 10 5 rfl, ft 123 9 rfl]; exact E6
    · rw [ft 10 6 rfl, ft 123 10 rfl]; exact E7
theorem q_seen {s : SG} (h : KF s) (mi pl : Int32) : QK (F_cseen s mi pl) (fun y => F_seen y mi pl) := by
  obtain ⟨⟨hU, hC, hE, hS, hH⟩, hX⟩ := h
  obtain ⟨S1, S2, S3, S4, S5⟩ := hS
  obtain ⟨N, hN, eN⟩ := lenO S2 S3
  have eN2 : s 123 37 = Int32.ofNat N := S1.symm.trans eN
  have cN : (Int32.ofNat N).toNatClampNeg = N := ofn_c (by omega)
  have eC : F_cseen s mi pl = bif m_cmp .eq (F_isBelow s mi 24) 0 then (((-2), s)) else (bif m_cmp .ne (F_isBelow s pl 21) 0 then (bif m_cmp .lt (s 6 2) 8 then (s 6 2 + 1, uset (uset (uset s 7 ((s 6 2).toNatClampNeg) mi) 8 ((s 6 2).toNatClampNeg) pl) 6 2 (s 6 2 + 1)) else (((-4), s))) else (((-2), s))) := rfl
  have eM : ∀ y, F_seen y mi pl = bif m_cmp .eq (F_isMinute y mi) 0 then (((-2), y)) else (bif m_cmp .ne (F_in y pl 0 20) 0 then (bif m_cmp .ne (y 123 37) 8 then (y 123 37 + 1, uset (uset (uset y 145 ((y 123 37).toNatClampNeg) mi) 146 ((y 123 37).toNatClampNeg) pl) 123 37 (y 123 37 + 1)) else (((-4), y))) else (((-2), y))) := fun _ => rfl
  have same : ∀ v : Int32, F_cseen s mi pl = (v, s) → F_seen s mi pl = (v, s) → QK (F_cseen s mi pl) (fun y => F_seen y mi pl) := fun v a b => by
    unfold QK
    rw [a]
    show KF (F_seen s mi pl).2 ∧ v = (F_seen s mi pl).1
    rw [b]
    exact ⟨⟨⟨hU, hC, hE, ⟨S1, S2, S3, S4, S5⟩, hH⟩, hX⟩, rfl⟩
  rw [bl_e, bl_n, eN, cN, lt8 hN] at eC
  have eS := eM s
  rw [isM_e, in_n s pl 20 21 rfl, eN2, cN] at eS
  cases q2 : bl mi 24 with
  | false =>
    rw [q2] at eC eS; (try dsimp only [nT, nF, cT, cF] at eC eS)
    exact same _ eC eS
  | true =>
    cases q3 : bl pl 21 with
    | false =>
      rw [q2, q3] at eC eS; (try dsimp only [nT, nF, cT, cF] at eC eS)
      exact same _ eC eS
    | true =>
      cases q4 : m_cmp .ne (Int32.ofNat N) 8 with
      | false =>
        rw [q2, q3, q4] at eC eS; (try dsimp only [nT, nF, cT, cF] at eC eS)
        exact same _ eC eS
      | true =>
        have l8 := ne8 hN q4
        rw [q2, q3, q4] at eC; (try dsimp only [nT, nF, cT, cF] at eC); rw [ofn_s] at eC
        unfold QK
        rw [eC]
        have fu : Fr [(7, 8, none), (6, 6, some 2)] s (uset (uset (uset s 7 N mi) 8 N pl) 6 2 (Int32.ofNat (N + 1))) := Fr.uset rfl (Fr.uset rfl (Fr.uset rfl (Fr.rf _ _)))
        have u2 : uset (uset (uset s 7 N mi) 8 N pl) 6 2 (Int32.ofNat (N + 1)) 6 2 = Int32.ofNat (N + 1) := uset_eq _ _ _ _
        have u3 : ∀ e, uset (uset (uset s 7 N mi) 8 N pl) 6 2 (Int32.ofNat (N + 1)) 7 e = if e = N then mi else s 7 e := fun e => by
          rw [uset_na (by decide), uset_na (by decide)]
          by_cases w : e = N
          · rw [if_pos w, w]; exact uset_eq _ _ _ _
          · rw [if_neg w]; exact uset_nj w
        have u4 : ∀ e, uset (uset (uset s 7 N mi) 8 N pl) 6 2 (Int32.ofNat (N + 1)) 8 e = if e = N then pl else s 8 e := fun e => by
          rw [uset_na (by decide)]
          by_cases w : e = N
          · rw [if_pos w, w]; exact uset_eq _ _ _ _
          · rw [if_neg w, uset_nj w]; exact uset_na (by decide)
        generalize uset (uset (uset s 7 N mi) 8 N pl) 6 2 (Int32.ofNat (N + 1)) = c at *
        have c11 : c 123 37 = Int32.ofNat N := (fu 123 37 rfl).trans eN2
        show KF (F_seen c mi pl).2 ∧ Int32.ofNat (N + 1) = (F_seen c mi pl).1
        rw [eM, isM_e, in_n c pl 20 21 rfl, c11, cN, q2, q3, q4]; (try dsimp only [nT, nF, cT, cF]); rw [ofn_s]
        show KF (uset (uset (uset c 145 N mi) 146 N pl) 123 37 (Int32.ofNat (N + 1))) ∧ Int32.ofNat (N + 1) = Int32.ofNat (N + 1)
        have ff : Fr [(145, 146, none), (123, 123, some 37)] c (uset (uset (uset c 145 N mi) 146 N pl) 123 37 (Int32.ofNat (N + 1))) := Fr.uset rfl (Fr.uset rfl (Fr.uset rfl (Fr.rf _ _)))
        have v2 : uset (uset (uset c 145 N mi) 146 N pl) 123 37 (Int32.ofNat (N + 1)) 123 37 = Int32.ofNat (N + 1) := uset_eq _ _ _ _
        have v3 : ∀ e, uset (uset (uset c 145 N mi) 146 N pl) 123 37 (Int32.ofNat (N + 1)) 145 e = if e = N then mi else c 145 e := fun e => by
          rw [uset_na (by decide), uset_na (by decide)]
          by_cases w : e = N
          · rw [if_pos w, w]; exact uset_eq _ _ _ _
          · rw [if_neg w]; exact uset_nj w
        have v4 : ∀ e, uset (uset (uset c 145 N mi) 146 N pl) 123 37 (Int32.ofNat (N + 1)) 146 e = if e = N then pl else c 146 e := fun e => by
          rw [uset_na (by decide)]
          by_cases w : e = N
          · rw [if_pos w, w]; exact uset_eq _ _ _ _
          · rw [if_neg w, uset_nj w]; exact uset_na (by decide)
        generalize uset (uset (uset c 145 N mi) 146 N pl) 123 37 (Int32.ofNat (N + 1)) = f at *
        have ft : Fr [(7, 8, none), (6, 6, some 2), (145, 146, none), (123, 123, some 37)] s f := (fu.wk rfl).tr (ff.wk rfl)
        have y2 : f 6 2 = Int32.ofNat (N + 1) := (ff 6 2 rfl).trans u2
        have y3 : ∀ e, f 7 e = if e = N then mi else s 7 e := fun e => (ff 7 e rfl).trans (u3 e)
        have y4 : ∀ e, f 8 e = if e = N then pl else s 8 e := fun e => (ff 8 e rfl).trans (u4 e)
        have cN1 : (Int32.ofNat (N + 1)).toNatClampNeg = N + 1 := ofn_c (by omega)
        refine ⟨⟨⟨hU.ag (ft.ag DT rfl), hC.ag (ft.ag DC rfl), hE.ag (ft.ag DE rfl), ⟨y2.trans v2.symm, ?_, ?_, fun e he => ⟨?_, ?_⟩, ?_⟩, hH.ag (ft.ag DH rfl)⟩, hX.ag (ft.ag DX rfl)⟩, rfl⟩
        · rw [y2, ofn_int (by omega)]; omega
        · rw [y2, cN1]; omega
        · rw [y3, v3, (S4 e he).1, fu 145 e rfl]
        · rw [y4, v4, (S4 e he).2, fu 146 e rfl]
        · intro e he
          rw [y2, cN1] at he
          rw [y3]
          by_cases w : e = N
          · rw [if_pos w]
            obtain ⟨em, lm⟩ := bl_ofn q2
            exact ⟨_, lm, em⟩
          · rw [if_neg w]
            exact S5 e (by rw [eN, cN]; omega)
theorem q_forget {s : SG} (h : KF s) : QK (F_cforget s) (fun y => F_forget y) := by
  obtain ⟨⟨hU, hC, hE, hS, hH⟩, hX⟩ := h
  obtain ⟨S1, S2, S3, S4, S5⟩ := hS
  have eC : F_cforget s = (s 6 2, uset s 6 2 0) := rfl
  have eM : ∀ y, F_forget y = (y 123 37, uset y 123 37 0) := fun _ => rfl
  unfold QK
  rw [eC]
  have fu : Fr [(6, 6, some 2)] s (uset s 6 2 0) := Fr.uset rfl (Fr.rf _ _)
  have u2 : uset s 6 2 0 6 2 = 0 := uset_eq _ _ _ _
  generalize uset s 6 2 0 = c at *
  show KF (F_forget c).2 ∧ s 6 2 = (F_forget c).1
  rw [eM]
  show KF (uset c 123 37 0) ∧ s 6 2 = c 123 37
  have ff : Fr [(123, 123, some 37)] c (uset c 123 37 0) := Fr.uset rfl (Fr.rf _ _)
  have v2 : uset c 123 37 0 123 37 = 0 := uset_eq _ _ _ _
  generalize uset c 123 37 0 = f at *
  have ft : Fr [(6, 6, some 2), (123, 123, some 37)] s f := (fu.wk rfl).tr (ff.wk rfl)
  have y2 : f 6 2 = 0 := (ff 6 2 rfl).trans u2
  refine ⟨⟨⟨hU.ag (ft.ag DT rfl), hC.ag (ft.ag DC rfl), hE.ag (ft.ag DE rfl), ⟨y2.trans v2.symm, ?_, ?_, fun e he => ?_, ?_⟩, hH.ag (ft.ag DH rfl)⟩, hX.ag (ft.ag DX rfl)⟩, by rw [fu 123 37 rfl]; exact S1⟩
  · rw [y2]; decide
  · rw [y2]; decide
  · rw [ft 7 e rfl, ft 8 e rfl, ft 145 e rfl, ft 146 e rfl]; exact S4 e he
  · intro e he
    rw [y2] at he
    have e0 : (0 : Int32).toNatClampNeg = 0 := rfl
    omega
theorem k_river {s : SG} (h : KF s) (w v : Int32) : KF (F_river (F_criver s w v).2 w v).2 := by
  obtain ⟨⟨hU, hC, hE, hS, hH⟩, hX⟩ := h
  obtain ⟨E1, E2, E3, E4, E5, E6, E7⟩ := hE
  have hK : KF s := ⟨⟨hU, hC, ⟨E1, E2, E3, E4, E5, E6, E7⟩, hS, hH⟩, hX⟩
  by_cases e0 : w = 0
  · subst e0
    have eC : F_criver s 0 v = bif m_cmp .ne (F_isBelow s v 10) 0 then (s 10 5, F_mark (uset s 10 5 v)) else ((-2), s) := rfl
    have eM : ∀ y, F_river y 0 v = bif m_cmp .eq (F_in y v 0 9) 0 then ((-2), y) else (y 123 9, uset (uset y 123 9 v) 123 10 (y 123 10)) := fun _ => rfl
    rw [eC, bl_n]
    cases q : bl v 10 with
    | false =>
      (try dsimp only [nT, nF, cT, cF])
      show KF (F_river s 0 v).2
      rw [eM, in_e s v 9 10 rfl, q]; (try dsimp only [nT, nF, cT, cF])
      exact hK
    | true =>
      (try dsimp only [nT, nF, cT, cF])
      have fu : Fr [(10, 10, some 5)] s (uset s 10 5 v) := Fr.uset rfl (Fr.rf _ _)
      have u2 : uset s 10 5 v 10 5 = v := uset_eq _ _ _ _
      show KF (F_river (F_mark (uset s 10 5 v)) 0 v).2
      generalize uset s 10 5 v = u at *
      have fm := fr_mark u
      have x12 : F_mark u 0 12 = 1 := rfl
      have x13 : F_mark u 0 13 = 1 := rfl
      generalize F_mark u = c at *
      rw [eM, in_e c v 9 10 rfl, q]; (try dsimp only [nT, nF, cT, cF])
      show KF (uset (uset c 123 9 v) 123 10 (c 123 10))
      have ff : Fr [(123, 123, some 9), (123, 123, some 10)] c (uset (uset c 123 9 v) 123 10 (c 123 10)) := Fr.uset rfl (Fr.uset rfl (Fr.rf _ _))
      have v2 : uset (uset c 123 9 v) 123 10 (c 123 10) 123 9 = v := (uset_nj (by decide)).trans (uset_eq _ _ _ _)
      have v3 : uset (uset c 123 9 v) 123 10 (c 123 10) 123 10 = c 123 10 := uset_eq _ _ _ _
      generalize uset (uset c 123 9 v) 123 10 (c 123 10) = f at *
      have ft : Fr [(10, 10, some 5), (0, 0, some 12), (0, 0, some 13), (123, 123, some 9), (123, 123, some 10)] s f := ((fu.wk rfl).tr (fm.wk rfl)).tr (ff.wk rfl)
      refine ⟨⟨hU.ag (ft.ag DT rfl), hC.ag (ft.ag DC rfl), ⟨?_, ?_, ?_, fun e he => ?_, ?_, ?_, ?_⟩, hS.ag (ft.ag DS rfl), hH.ag (ft.ag DH rfl)⟩, KX.stale ((ff 0 12 rfl).trans x12) ((ff 0 13 rfl).trans x13)⟩
      · rw [ft 2 3 rfl, ft 123 11 rfl]; exact E1
      · rw [ft 2 3 rfl]; exact E2
      · rw [ft 2 3 rfl]; exact E3
      · rw [ft 3 e rfl, ft 4 e rfl, ft 5 e rfl, ft 130 e rfl, ft 131 e rfl, ft 132 e rfl]; exact E4 e he
      · intro e he
        rw [ft 2 3 rfl] at he
        rw [ft 3 e rfl, ft 4 e rfl]
        exact E5 e he
      · rw [v2, ff 10 5 rfl, fm 10 5 rfl]; exact u2
      · rw [v3, ft 10 6 rfl, fm 123 10 rfl, fu 123 10 rfl]; exact E7
  · by_cases e1 : w = 1
    · subst e1
      have eC : F_criver s 1 v = F_tellHome s v := rfl
      have eH : F_tellHome s v = bif m_cmp .lt v 50 then (((-2), s)) else (bif m_cmp .le v 999 then (s 10 6, F_mark (uset s 10 6 v)) else (((-2), s))) := rfl
      have eM : ∀ y, F_river y 1 v = bif m_cmp .ne (F_in y v 50 999) 0 then (y 123 10, uset (uset y 123 9 (y 123 9)) 123 10 v) else ((-2), y) := fun _ => rfl
      have eI : ∀ y, m_cmp .ne (F_in y v 50 999) 0 = bif m_cmp .lt v 50 then false else m_cmp .le v 999 := fun y => by
        unfold F_in
        dsimp only
        rw [gt_le]
        cases m_cmp .lt v 50
        · cases m_cmp .le v 999 <;> rfl
        · rfl
      rw [eC, eH]
      cases q : m_cmp .lt v 50 with
      | true =>
        (try dsimp only [nT, nF, cT, cF])
        show KF (F_river s 1 v).2
        rw [eM, eI, q]; (try dsimp only [nT, nF, cT, cF])
        exact hK
      | false =>
        cases q2 : m_cmp .le v 999 with
        | false =>
          (try dsimp only [nT, nF, cT, cF])
          show KF (F_river s 1 v).2
          rw [eM, eI, q, q2]; (try dsimp only [nT, nF, cT, cF])
          exact hK
        | true =>
          (try dsimp only [nT, nF, cT, cF])
          have fu : Fr [(10, 10, some 6)] s (uset s 10 6 v) := Fr.uset rfl (Fr.rf _ _)
          have u2 : uset s 10 6 v 10 6 = v := uset_eq _ _ _ _
          show KF (F_river (F_mark (uset s 10 6 v)) 1 v).2
          generalize uset s 10 6 v = u at *
          have fm := fr_mark u
          have x12 : F_mark u 0 12 = 1 := rfl
          have x13 : F_mark u 0 13 = 1 := rfl
          generalize F_mark u = c at *
          rw [eM, eI, q, q2]; (try dsimp only [nT, nF, cT, cF])
          show KF (uset (uset c 123 9 (c 123 9)) 123 10 v)
          have ff : Fr [(123, 123, some 9), (123, 123, some 10)] c (uset (uset c 123 9 (c 123 9)) 123 10 v) := Fr.uset rfl (Fr.uset rfl (Fr.rf _ _))
          have v2 : uset (uset c 123 9 (c 123 9)) 123 10 v 123 9 = c 123 9 := (uset_nj (by decide)).trans (uset_eq _ _ _ _)
          have v3 : uset (uset c 123 9 (c 123 9)) 123 10 v 123 10 = v := uset_eq _ _ _ _
          generalize uset (uset c 123 9 (c 123 9)) 123 10 v = f at *
          have ft : Fr [(10, 10, some 6), (0, 0, some 12), (0, 0, some 13), (123, 123, some 9), (123, 123, some 10)] s f := ((fu.wk rfl).tr (fm.wk rfl)).tr (ff.wk rfl)
          refine ⟨⟨hU.ag (ft.ag DT rfl), hC.ag (ft.ag DC rfl), ⟨?_, ?_, ?_, fun e he => ?_, ?_, ?_, ?_⟩, hS.ag (ft.ag DS rfl), hH.ag (ft.ag DH rfl)⟩, KX.stale ((ff 0 12 rfl).trans x12) ((ff 0 13 rfl).trans x13)⟩
          · rw [ft 2 3 rfl, ft 123 11 rfl]; exact E1
          · rw [ft 2 3 rfl]; exact E2
          · rw [ft 2 3 rfl]; exact E3
          · rw [ft 3 e rfl, ft 4 e rfl, ft 5 e rfl, ft 130 e rfl, ft 131 e rfl, ft 132 e rfl]; exact E4 e he
          · intro e he
            rw [ft 2 3 rfl] at he
            rw [ft 3 e rfl, ft 4 e rfl]
            exact E5 e he
          · rw [v2, ft 10 5 rfl, fm 123 9 rfl, fu 123 9 rfl]; exact E6
          · rw [v3, ff 10 6 rfl, fm 10 6 rfl]; exact u2
    · have eC : F_criver s w v = ((-2), s) := by
        have a : m_cmp .ne w 0 = true := m_ne_iff.mpr e0
        have b : m_cmp .ne w 1 = true := m_ne_iff.mpr e1
        dsimp only [F_criver]
        rw [a, b]; (try dsimp only [nT, nF, cT, cF])
      have hb : bl w 2 = false := by
        cases q : bl w 2 with
        | false => rfl
        | true =>
          rcases bl_2.mp q with x | x
          · exact absurd x e0
          · exact absurd x e1
      have eM : F_river s w v = ((-2), s) := by
        dsimp only [F_river]
        rw [is2_e, hb]; (try dsimp only [nT, nF, cT, cF])
      rw [eC]
      show KF (F_river s w v).2
      rw [eM]
      exact hK
/-- counts -/
theorem q_count {s : SG} (h : KF s) (w : Int32) : F_ccount s w = (F_count s w).1 := by
  obtain ⟨⟨hU, hC, hE, hS, hH⟩, -⟩ := h
  have d := kd hU.1 hC
  obtain ⟨-, f1, f2⟩ := faults hU.1
  obtain ⟨-, R1, R2, M1, M2, -⟩ := flM hU.1.1
  have n1 : F_reads s 123 5 = bif m_cmp .ne (F_cfault_1 s) (-1) then (0 : Int32) else s 111 1 := by
    have e : F_cfault_1 s = F_signFault_1 s := rfl
    rw [M1, e, f1, R1, hU.1.2.2.1]
    rfl
  have n2 : F_reads s 123 7 = bif m_cmp .ne (F_cfault_2 s) (-1) then (0 : Int32) else s 113 1 := by
    have e : F_cfault_2 s = F_signFault_2 s := rfl
    rw [M2, e, f2, R2, hU.1.2.2.2.1]
    rfl
  have eT : F_tellOf s w = (bif m_cmp .ne w 0 then (bif m_cmp .ne w 1 then F_reads s 123 7 else F_reads s 123 5) else F_reads s 123 2, F_reads s) := rfl
  obtain ⟨E1, -, -, -, -, E6, E7⟩ := hE
  by_cases e0 : w = 0
  · rw [e0]
    have eC : F_ccount s 0 = s 10 0 := rfl
    have eM : (F_count s 0).1 = F_reads s 123 2 := rfl
    rw [eC, eM]
    exact d.1
  by_cases e1 : w = 1
  · rw [e1]
    have eC : F_ccount s 1 = (bif m_cmp .ne (F_cfault_1 s) (-1) then (0 : Int32) else s 111 1) := rfl
    have eM : (F_count s 1).1 = F_reads s 123 5 := rfl
    rw [eC, eM]
    exact n1.symm
  by_cases e2 : w = 2
  · rw [e2]
    have eC : F_ccount s 2 = (bif m_cmp .ne (F_cfault_2 s) (-1) then (0 : Int32) else s 113 1) := rfl
    have eM : (F_count s 2).1 = F_reads s 123 7 := rfl
    rw [eC, eM]
    exact n2.symm
  by_cases e3 : w = 3
  · rw [e3]
    have eC : F_ccount s 3 = ((s 109 1) + (s 111 1)) + (s 113 1) := rfl
    have eM : (F_count s 3).1 = ((s 124 0) + (s 124 1)) + (s 124 2) := rfl
    rw [eC, eM, hU.1.2.1, hU.1.2.2.1, hU.1.2.2.2.1]
  by_cases e4 : w = 4
  · rw [e4]
    have eC : F_ccount s 4 = s 2 3 := rfl
    have eM : (F_count s 4).1 = s 123 11 := rfl
    rw [eC, eM]
    exact E1
  by_cases e5 : w = 5
  · rw [e5]
    have eC : F_ccount s 5 = s 10 5 := rfl
    have eM : (F_count s 5).1 = s 123 9 := rfl
    rw [eC, eM]
    exact E6
  by_cases e6 : w = 6
  · rw [e6]
    have eC : F_ccount s 6 = s 10 6 := rfl
    have eM : (F_count s 6).1 = s 123 10 := rfl
    rw [eC, eM]
    exact E7
  by_cases e7 : w = 7
  · rw [e7]
    have eC : F_ccount s 7 = s 6 2 := rfl
    have eM : (F_count s 7).1 = s 123 37 := rfl
    rw [eC, eM]
    exact hS.1
  by_cases e8 : w = 8
  · rw [e8]
    have eC : F_ccount s 8 = s 0 4 := rfl
    have eM : (F_count s 8).1 = s 123 46 := rfl
    rw [eC, eM]
    exact hH.2
  have n : ∀ k : Int32, w ≠ k → m_cmp .eq w k = false := fun k hk => by
    cases q : m_cmp .eq w k with
    | false => rfl
    | true => exact absurd (m_eq_iff.mp q) hk
  dsimp only [F_ccount, F_count]
  rw [n 0 e0, n 1 e1, n 2 e2, n 3 e3, n 4 e4, n 5 e5, n 6 e6, n 7 e7, n 8 e8]
  rfl
end
section
/-! sheets: the class's calls, whatever the number (printed by wip/u/mk_sh.py) -/
def G_fo (q : Nat) (s : SG) (form i : Int32) : Int32 := bif m_cmp .eq (s (115 + 2 * q) 1) 0 then (bif m_cmp .eq (s (115 + 2 * q) 2) form then (bif m_cmp .eq (F_isBelow s i (s (115 + 2 * q) 3)) 0 then (2 : Int32) else (0 : Int32)) else (3)) else (1)
def cvF (form v : Int32) : Int32 := bif m_cmp .ne form 0 then (bif m_cmp .ne form 1 then v else v.toInt16.toInt32) else v.toInt8.toInt32
def G_csheet (q : Nat) (s : SG) (form n : Int32) : Int32 × SG := bif bl form 3 then (bif m_cmp .le n 60 then (bif m_cmp .ge n 0 then (n, uset (uset (uset (fil s (116 + 2 * q) 60 0) (115 + 2 * q) 1 0) (115 + 2 * q) 2 form) (115 + 2 * q) 3 n) else F_find s 5) else ((-2), s)) else ((-2), s)
def G_close (q : Nat) (s : SG)  : Int32 × SG := bif m_cmp .eq (s (115 + 2 * q) 1) 0 then (s (115 + 2 * q) 3, uset s (115 + 2 * q) 1 1) else F_find s 1
def G_cput (q : Nat) (s : SG) (form i v : Int32) : Int32 × SG := bif bl form 3 then (bif m_cmp .eq (G_fo q s form i) 0 then (1, uset s (116 + 2 * q) i.toNatClampNeg (cvF (s (115 + 2 * q) 2) v)) else F_find s (G_fo q s form i)) else ((-2), s)
def G_cget (q : Nat) (s : SG) (form i : Int32) : Int32 × SG := bif bl form 3 then (bif m_cmp .eq (G_fo q s form i) 0 then (s (116 + 2 * q) i.toNatClampNeg, s) else ((-2147483648), uset s 0 4 (G_fo q s form i))) else ((-2147483648), s)
def G_cwrite (q : Nat) (s : SG) (what : Int32) : Int32 × SG := bif bl what 2 then (bif m_cmp .eq (s (115 + 2 * q) 1) 0 then ((if 24 < F_toldTrip s (115 + 2 * q) 3 then 24 else F_toldTrip s (115 + 2 * q) 3), itr (fun i a => uset a (116 + 2 * q) (Int32.ofNat i).toNatClampNeg (cvF (a (115 + 2 * q) 2) (bif m_cmp .ne what 0 then a 17 i else a 16 i))) 0 (if 24 < F_toldTrip s (115 + 2 * q) 3 then 24 else F_toldTrip s (115 + 2 * q) 3).toNatClampNeg (F_toldTrip s)) else F_find s 1) else ((-2), s)
def F_csheet (s : SG) (s_ : Int32) (form : Int32) (n : Int32) : Int32 × SG := if s_ = 0 then F_csheet_0 s form n else if s_ = 1 then F_csheet_1 s form n else if s_ = 2 then F_csheet_2 s form n else if s_ = 3 then F_csheet_3 s form n else ((-2), s)
theorem ux_csheet (s : SG) (s_ : Int32) (form : Int32) (n : Int32) : UP m_X6_sheet 0 (m_ent 4 [.ref 0, .int s_, .int form, .int n]) [] s (Qb (F_csheet s s_ form n)) := by
  unfold F_csheet
  by_cases e0 : s_ = 0
  · rw [if_pos e0, e0]
    exact ux_csheet_0 s form n
  by_cases e1 : s_ = 1
  · rw [if_neg e0, if_pos e1, e1]
    exact ux_csheet_1 s form n
  by_cases e2 : s_ = 2
  · rw [if_neg e0, if_neg e1, if_pos e2, e2]
    exact ux_csheet_2 s form n
  by_cases e3 : s_ = 3
  · rw [if_neg e0, if_neg e1, if_neg e2, if_pos e3, e3]
    exact ux_csheet_3 s form n
  rw [if_neg e0, if_neg e1, if_neg e2, if_neg e3]
  have hb : bl s_ 4 = false := by
    cases q : bl s_ 4 with
    | false => rfl
    | true =>
      rcases bl_4.mp q with w | w | w | w
      · exact absurd w e0
      · exact absurd w e1
      · exact absurd w e2
      · exact absurd w e3
  refine UP.stp 2 (i1 := 2) (L1 := [some (.ref 0), some (.int s_), some (.int form), some (.int n)]) (st1 := [.int 4, .int s_]) (s1 := s) rfl ?_
  refine UP.cI (M1 := m_X6_isBelow) (as := [.int s_, .int 4]) (rest := []) (T := F_isBelow s s_ 4) rfl rfl (ux_isBelow s s_ 4) ?_
  refine UP.ifT rfl (by rw [bl_e, hb]; rfl) ?_
  refine UP.stp 1 (i1 := 12) (L1 := [some (.ref 0), some (.int s_), some (.int form), some (.int n)]) (st1 := [.int (-2)]) (s1 := s) rfl ?_
  exact UP.ret (r := some (.int (-2))) rfl ⟨rfl, rfl⟩
theorem gl_csheet_0 (s : SG) (form n : Int32) : F_csheet_0 s form n = G_csheet 0 s form n := by
  have e1 : m_cmp .eq (F_isBelow s 0 4) 0 = false := rfl
  dsimp only [F_csheet_0, G_csheet]
  rw [e1, bl_e]
  cases bl form 3 <;> rfl
theorem gl_csheet_1 (s : SG) (form n : Int32) : F_csheet_1 s form n = G_csheet 1 s form n := by
  have e1 : m_cmp .eq (F_isBelow s 1 4) 0 = false := rfl
  dsimp only [F_csheet_1, G_csheet]
  rw [e1, bl_e]
  cases bl form 3 <;> rfl
theorem gl_csheet_2 (s : SG) (form n : Int32) : F_csheet_2 s form n = G_csheet 2 s form n := by
  have e1 : m_cmp .eq (F_isBelow s 2 4) 0 = false := rfl
  dsimp only [F_csheet_2, G_csheet]
  rw [e1, bl_e]
  cases bl form 3 <;> rfl
theorem gl_csheet_3 (s : SG) (form n : Int32) : F_csheet_3 s form n = G_csheet 3 s form n := by
  have e1 : m_cmp .eq (F_isBelow s 3 4) 0 = false := rfl
  dsimp only [F_csheet_3, G_csheet]
  rw [e1, bl_e]
  cases bl form 3 <;> rfl
theorem cs_csheet (s : SG) (s_ : Int32) (form : Int32) (n : Int32) : F_csheet s s_ form n = bif bl s_ 4 then G_csheet s_.toNatClampNeg s form n else ((-2), s) := by
  unfold F_csheet
  by_cases e0 : s_ = 0
  · rw [if_pos e0, e0, gl_csheet_0, show bl 0 4 = true from rfl, show (0 : Int32).toNatClampNeg = 0 from rfl, cT]
  by_cases e1 : s_ = 1
  · rw [if_neg e0, if_pos e1, e1, gl_csheet_1, show bl 1 4 = true from rfl, show (1 : Int32).toNatClampNeg = 1 from rfl, cT]
  by_cases e2 : s_ = 2
  · rw [if_neg e0, if_neg e1, if_pos e2, e2, gl_csheet_2, show bl 2 4 = true from rfl, show (2 : Int32).toNatClampNeg = 2 from rfl, cT]
  by_cases e3 : s_ = 3
  · rw [if_neg e0, if_neg e1, if_neg e2, if_pos e3, e3, gl_csheet_3, show bl 3 4 = true from rfl, show (3 : Int32).toNatClampNeg = 3 from rfl, cT]
  rw [if_neg e0, if_neg e1, if_neg e2, if_neg e3]
  have hb : bl s_ 4 = false := by
    cases q : bl s_ 4 with
    | false => rfl
    | true =>
      rcases bl_4.mp q with w | w | w | w
      · exact absurd w e0
      · exact absurd w e1
      · exact absurd w e2
      · exact absurd w e3
  rw [hb]
  rfl
def F_close (s : SG) (s_ : Int32) : Int32 × SG := if s_ = 0 then F_close_0 s  else if s_ = 1 then F_close_1 s  else if s_ = 2 then F_close_2 s  else if s_ = 3 then F_close_3 s  else ((-2), s)
theorem ux_close (s : SG) (s_ : Int32) : UP m_X6_lose 0 (m_ent 2 [.ref 0, .int s_]) [] s (Qb (F_close s s_)) := by
  unfold F_close
  by_cases e0 : s_ = 0
  · rw [if_pos e0, e0]
    exact ux_close_0 s 
  by_cases e1 : s_ = 1
  · rw [if_neg e0, if_pos e1, e1]
    exact ux_close_1 s 
  by_cases e2 : s_ = 2
  · rw [if_neg e0, if_neg e1, if_pos e2, e2]
    exact ux_close_2 s 
  by_cases e3 : s_ = 3
  · rw [if_neg e0, if_neg e1, if_neg e2, if_pos e3, e3]
    exact ux_close_3 s 
  rw [if_neg e0, if_neg e1, if_neg e2, if_neg e3]
  have hb : bl s_ 4 = false := by
    cases q : bl s_ 4 with
    | false => rfl
    | true =>
      rcases bl_4.mp q with w | w | w | w
      · exact absurd w e0
      · exact absurd w e1
      · exact absurd w e2
      · exact absurd w e3
  refine UP.stp 2 (i1 := 2) (L1 := [some (.ref 0), some (.int s_)]) (st1 := [.int 4, .int s_]) (s1 := s) rfl ?_
  refine UP.cI (M1 := m_X6_isBelow) (as := [.int s_, .int 4]) (rest := []) (T := F_isBelow s s_ 4) rfl rfl (ux_isBelow s s_ 4) ?_
  refine UP.ifF rfl (by rw [bl_n, hb]) ?_
  refine UP.stp 1 (i1 := 5) (L1 := [some (.ref 0), some (.int s_)]) (st1 := [.int (-2)]) (s1 := s) rfl ?_
  exact UP.ret (r := some (.int (-2))) rfl ⟨rfl, rfl⟩
theorem gl_close_0 (s : SG)  : F_close_0 s  = G_close 0 s  := by
  have e1 : m_cmp .ne (F_isBelow s 0 4) 0 = true := rfl
  dsimp only [F_close_0, G_close]
  rw [e1]
  rfl
theorem gl_close_1 (s : SG)  : F_close_1 s  = G_close 1 s  := by
  have e1 : m_cmp .ne (F_isBelow s 1 4) 0 = true := rfl
  dsimp only [F_close_1, G_close]
  rw [e1]
  rfl
theorem gl_close_2 (s : SG)  : F_close_2 s  = G_close 2 s  := by
  have e1 : m_cmp .ne (F_isBelow s 2 4) 0 = true := rfl
  dsimp only [F_close_2, G_close]
  rw [e1]
  rfl
theorem gl_close_3 (s : SG)  : F_close_3 s  = G_close 3 s  := by
  have e1 : m_cmp .ne (F_isBelow s 3 4) 0 = true := rfl
  dsimp only [F_close_3, G_close]
  rw [e1]
  rfl
theorem cs_close (s : SG) (s_ : Int32) : F_close s s_ = bif bl s_ 4 then G_close s_.toNatClampNeg s  else ((-2), s) := by
  unfold F_close
  by_cases e0 : s_ = 0
  · rw [if_pos e0, e0, gl_close_0, show bl 0 4 = true from rfl, show (0 : Int32).toNatClampNeg = 0 from rfl, cT]
  by_cases e1 : s_ = 1
  · rw [if_neg e0, if_pos e1, e1, gl_close_1, show bl 1 4 = true from rfl, show (1 : Int32).toNatClampNeg = 1 from rfl, cT]
  by_cases e2 : s_ = 2
  · rw [if_neg e0, if_neg e1, if_pos e2, e2, gl_close_2, show bl 2 4 = true from rfl, show (2 : Int32).toNatClampNeg = 2 from rfl, cT]
  by_cases e3 : s_ = 3
  · rw [if_neg e0, if_neg e1, if_neg e2, if_pos e3, e3, gl_close_3, show bl 3 4 = true from rfl, show (3 : Int32).toNatClampNeg = 3 from rfl, cT]
  rw [if_neg e0, if_neg e1, if_neg e2, if_neg e3]
  have hb : bl s_ 4 = false := by
    cases q : bl s_ 4 with
    | false => rfl
    | true =>
      rcases bl_4.mp q with w | w | w | w
      · exact absurd w e0
      · exact absurd w e1
      · exact absurd w e2
      · exact absurd w e3
  rw [hb]
  rfl
def F_cput (s : SG) (s_ : Int32) (form : Int32) (i : Int32) (v : Int32) : Int32 × SG := if s_ = 0 then F_cput_0 s form i v else if s_ = 1 then F_cput_1 s form i v else if s_ = 2 then F_cput_2 s form i v else if s_ = 3 then F_cput_3 s form i v else ((-2), s)
theorem ux_cput (s : SG) (s_ : Int32) (form : Int32) (i : Int32) (v : Int32) : UP m_X6_put 0 (m_ent 6 [.ref 0, .int s_, .int form, .int i, .int v]) [] s (Qb (F_cput s s_ form i v)) := by
  unfold F_cput
  by_cases e0 : s_ = 0
  · rw [if_pos e0, e0]
    exact ux_cput_0 s form i v
  by_cases e1 : s_ = 1
  · rw [if_neg e0, if_pos e1, e1]
    exact ux_cput_1 s form i v
  by_cases e2 : s_ = 2
  · rw [if_neg e0, if_neg e1, if_pos e2, e2]
    exact ux_cput_2 s form i v
  by_cases e3 : s_ = 3
  · rw [if_neg e0, if_neg e1, if_neg e2, if_pos e3, e3]
    exact ux_cput_3 s form i v
  rw [if_neg e0, if_neg e1, if_neg e2, if_neg e3]
  have hb : bl s_ 4 = false := by
    cases q : bl s_ 4 with
    | false => rfl
    | true =>
      rcases bl_4.mp q with w | w | w | w
      · exact absurd w e0
      · exact absurd w e1
      · exact absurd w e2
      · exact absurd w e3
  refine UP.stp 2 (i1 := 2) (L1 := [some (.ref 0), some (.int s_), some (.int form), some (.int i), some (.int v), none]) (st1 := [.int 4, .int s_]) (s1 := s) rfl ?_
  refine UP.cI (M1 := m_X6_isBelow) (as := [.int s_, .int 4]) (rest := []) (T := F_isBelow s s_ 4) rfl rfl (ux_isBelow s s_ 4) ?_
  refine UP.ifT rfl (by rw [bl_e, hb]; rfl) ?_
  refine UP.stp 1 (i1 := 9) (L1 := [some (.ref 0), some (.int s_), some (.int form), some (.int i), some (.int v), none]) (st1 := [.int (-2)]) (s1 := s) rfl ?_
  exact UP.ret (r := some (.int (-2))) rfl ⟨rfl, rfl⟩
theorem gl_cput_0 (s : SG) (form i v : Int32) : F_cput_0 s form i v = G_cput 0 s form i v := by
  have e1 : m_cmp .eq (F_isBelow s 0 4) 0 = false := rfl
  have e2 : F_findingOf_0 s form i = G_fo 0 s form i := rfl
  dsimp only [F_cput_0, G_cput]
  rw [e1, bl_n, e2]
  rfl
theorem gl_cput_1 (s : SG) (form i v : Int32) : F_cput_1 s form i v = G_cput 1 s form i v := by
  have e1 : m_cmp .eq (F_isBelow s 1 4) 0 = false := rfl
  have e2 : F_findingOf_1 s form i = G_fo 1 s form i := rfl
  dsimp only [F_cput_1, G_cput]
  rw [e1, bl_n, e2]
  rfl
theorem gl_cput_2 (s : SG) (form i v : Int32) : F_cput_2 s form i v = G_cput 2 s form i v := by
  have e1 : m_cmp .eq (F_isBelow s 2 4) 0 = false := rfl
  have e2 : F_findingOf_2 s form i = G_fo 2 s form i := rfl
  dsimp only [F_cput_2, G_cput]
  rw [e1, bl_n, e2]
  rfl
theorem gl_cput_3 (s : SG) (form i v : Int32) : F_cput_3 s form i v = G_cput 3 s form i v := by
  have e1 : m_cmp .eq (F_isBelow s 3 4) 0 = false := rfl
  have e2 : F_findingOf_3 s form i = G_fo 3 s form i := rfl
  dsimp only [F_cput_3, G_cput]
  rw [e1, bl_n, e2]
  rfl
theorem cs_cput (s : SG) (s_ : Int32) (form : Int32) (i : Int32) (v : Int32) : F_cput s s_ form i v = bif bl s_ 4 then G_cput s_.toNatClampNeg s form i v else ((-2), s) := by
  unfold F_cput
  by_cases e0 : s_ = 0
  · rw [if_pos e0, e0, gl_cput_0, show bl 0 4 = true from rfl, show (0 : Int32).toNatClampNeg = 0 from rfl, cT]
  by_cases e1 : s_ = 1
  · rw [if_neg e0, if_pos e1, e1, gl_cput_1, show bl 1 4 = true from rfl, show (1 : Int32).toNatClampNeg = 1 from rfl, cT]
  by_cases e2 : s_ = 2
  · rw [if_neg e0, if_neg e1, if_pos e2, e2, gl_cput_2, show bl 2 4 = true from rfl, show (2 : Int32).toNatClampNeg = 2 from rfl, cT]
  by_cases e3 : s_ = 3
  · rw [if_neg e0, if_neg e1, if_neg e2, if_pos e3, e3, gl_cput_3, show bl 3 4 = true from rfl, show (3 : Int32).toNatClampNeg = 3 from rfl, cT]
  rw [if_neg e0, if_neg e1, if_neg e2, if_neg e3]
  have hb : bl s_ 4 = false := by
    cases q : bl s_ 4 with
    | false => rfl
    | true =>
      rcases bl_4.mp q with w | w | w | w
      · exact absurd w e0
      · exact absurd w e1
      · exact absurd w e2
      · exact absurd w e3
  rw [hb]
  rfl
def F_cget (s : SG) (s_ : Int32) (form : Int32) (i : Int32) : Int32 × SG := if s_ = 0 then F_cget_0 s form i else if s_ = 1 then F_cget_1 s form i else if s_ = 2 then F_cget_2 s form i else if s_ = 3 then F_cget_3 s form i else ((-2147483648), s)
theorem ux_cget (s : SG) (s_ : Int32) (form : Int32) (i : Int32) : UP m_X6_get 0 (m_ent 5 [.ref 0, .int s_, .int form, .int i]) [] s (Qb (F_cget s s_ form i)) := by
  unfold F_cget
  by_cases e0 : s_ = 0
  · rw [if_pos e0, e0]
    exact ux_cget_0 s form i
  by_cases e1 : s_ = 1
  · rw [if_neg e0, if_pos e1, e1]
    exact ux_cget_1 s form i
  by_cases e2 : s_ = 2
  · rw [if_neg e0, if_neg e1, if_pos e2, e2]
    exact ux_cget_2 s form i
  by_cases e3 : s_ = 3
  · rw [if_neg e0, if_neg e1, if_neg e2, if_pos e3, e3]
    exact ux_cget_3 s form i
  rw [if_neg e0, if_neg e1, if_neg e2, if_neg e3]
  have hb : bl s_ 4 = false := by
    cases q : bl s_ 4 with
    | false => rfl
    | true =>
      rcases bl_4.mp q with w | w | w | w
      · exact absurd w e0
      · exact absurd w e1
      · exact absurd w e2
      · exact absurd w e3
  refine UP.stp 2 (i1 := 2) (L1 := [some (.ref 0), some (.int s_), some (.int form), some (.int i), none]) (st1 := [.int 4, .int s_]) (s1 := s) rfl ?_
  refine UP.cI (M1 := m_X6_isBelow) (as := [.int s_, .int 4]) (rest := []) (T := F_isBelow s s_ 4) rfl rfl (ux_isBelow s s_ 4) ?_
  refine UP.ifT rfl (by rw [bl_e, hb]; rfl) ?_
  refine UP.stp 1 (i1 := 9) (L1 := [some (.ref 0), some (.int s_), some (.int form), some (.int i), none]) (st1 := [.int (-2147483648)]) (s1 := s) rfl ?_
  exact UP.ret (r := some (.int (-2147483648))) rfl ⟨rfl, rfl⟩
theorem gl_cget_0 (s : SG) (form i : Int32) : F_cget_0 s form i = G_cget 0 s form i := by
  have e1 : m_cmp .eq (F_isBelow s 0 4) 0 = false := rfl
  have e2 : F_findingOf_0 s form i = G_fo 0 s form i := rfl
  dsimp only [F_cget_0, G_cget]
  rw [e1, bl_n, e2]
  rfl
theorem gl_cget_1 (s : SG) (form i : Int32) : F_cget_1 s form i = G_cget 1 s form i := by
  have e1 : m_cmp .eq (F_isBelow s 1 4) 0 = false := rfl
  have e2 : F_findingOf_1 s form i = G_fo 1 s form i := rfl
  dsimp only [F_cget_1, G_cget]
  rw [e1, bl_n, e2]
  rfl
theorem gl_cget_2 (s : SG) (form i : Int32) : F_cget_2 s form i = G_cget 2 s form i := by
  have e1 : m_cmp .eq (F_isBelow s 2 4) 0 = false := rfl
  have e2 : F_findingOf_2 s form i = G_fo 2 s form i := rfl
  dsimp only [F_cget_2, G_cget]
  rw [e1, bl_n, e2]
  rfl
theorem gl_cget_3 (s : SG) (form i : Int32) : F_cget_3 s form i = G_cget 3 s form i := by
  have e1 : m_cmp .eq (F_isBelow s 3 4) 0 = false := rfl
  have e2 : F_findingOf_3 s form i = G_fo 3 s form i := rfl
  dsimp only [F_cget_3, G_cget]
  rw [e1, bl_n, e2]
  rfl
theorem cs_cget (s : SG) (s_ : Int32) (form : Int32) (i : Int32) : F_cget s s_ form i = bif bl s_ 4 then G_cget s_.toNatClampNeg s form i else ((-2147483648), s) := by
  unfold F_cget
  by_cases e0 : s_ = 0
  · rw [if_pos e0, e0, gl_cget_0, show bl 0 4 = true from rfl, show (0 : Int32).toNatClampNeg = 0 from rfl, cT]
  by_cases e1 : s_ = 1
  · rw [if_neg e0, if_pos e1, e1, gl_cget_1, show bl 1 4 = true from rfl, show (1 : Int32).toNatClampNeg = 1 from rfl, cT]
  by_cases e2 : s_ = 2
  · rw [if_neg e0, if_neg e1, if_pos e2, e2, gl_cget_2, show bl 2 4 = true from rfl, show (2 : Int32).toNatClampNeg = 2 from rfl, cT]
  by_cases e3 : s_ = 3
  · rw [if_neg e0, if_neg e1, if_neg e2, if_pos e3, e3, gl_cget_3, show bl 3 4 = true from rfl, show (3 : Int32).toNatClampNeg = 3 from rfl, cT]
  rw [if_neg e0, if_neg e1, if_neg e2, if_neg e3]
  have hb : bl s_ 4 = false := by
    cases q : bl s_ 4 with
    | false => rfl
    | true =>
      rcases bl_4.mp q with w | w | w | w
      · exact absurd w e0
      · exact absurd w e1
      · exact absurd w e2
      · exact absurd w e3
  rw [hb]
  rfl
def F_cwrite (s : SG) (what : Int32) (s_ : Int32) : Int32 × SG := if s_ = 0 then F_cwrite_0 s what else if s_ = 1 then F_cwrite_1 s what else if s_ = 2 then F_cwrite_2 s what else if s_ = 3 then F_cwrite_3 s what else ((-2), s)
theorem ux_cwrite (s : SG) (what : Int32) (s_ : Int32) : UP m_X6_write 0 (m_ent 7 [.ref 0, .int what, .int s_]) [] s (Qb (F_cwrite s what s_)) := by
  unfold F_cwrite
  by_cases e0 : s_ = 0
  · rw [if_pos e0, e0]
    exact ux_cwrite_0 s what
  by_cases e1 : s_ = 1
  · rw [if_neg e0, if_pos e1, e1]
    exact ux_cwrite_1 s what
  by_cases e2 : s_ = 2
  · rw [if_neg e0, if_neg e1, if_pos e2, e2]
    exact ux_cwrite_2 s what
  by_cases e3 : s_ = 3
  · rw [if_neg e0, if_neg e1, if_neg e2, if_pos e3, e3]
    exact ux_cwrite_3 s what
  rw [if_neg e0, if_neg e1, if_neg e2, if_neg e3]
  have hb : bl s_ 4 = false := by
    cases q : bl s_ 4 with
    | false => rfl
    | true =>
      rcases bl_4.mp q with w | w | w | w
      · exact absurd w e0
      · exact absurd w e1
      · exact absurd w e2
      · exact absurd w e3
  cases b1 : bl what 2 with
  | false =>
    refine UP.stp 2 (i1 := 2) (L1 := [some (.ref 0), some (.int what), some (.int s_), none, none, none, none]) (st1 := [.int 2, .int what]) (s1 := s) rfl ?_
    refine UP.cI (M1 := m_X6_isBelow) (as := [.int what, .int 2]) (rest := []) (T := F_isBelow s what 2) rfl rfl (ux_isBelow s what 2) ?_
    refine UP.ifT rfl (by rw [bl_e, b1]; rfl) ?_
    refine UP.stp 1 (i1 := 9) (L1 := [some (.ref 0), some (.int what), some (.int s_), none, none, none, none]) (st1 := [.int (-2)]) (s1 := s) rfl ?_
    exact UP.ret (r := some (.int (-2))) rfl ⟨rfl, rfl⟩
  | true =>
    refine UP.stp 2 (i1 := 2) (L1 := [some (.ref 0), some (.int what), some (.int s_), none, none, none, none]) (st1 := [.int 2, .int what]) (s1 := s) rfl ?_
    refine UP.cI (M1 := m_X6_isBelow) (as := [.int what, .int 2]) (rest := []) (T := F_isBelow s what 2) rfl rfl (ux_isBelow s what 2) ?_
    refine UP.ifF rfl (by rw [bl_e, b1]; rfl) ?_
    refine UP.stp 2 (i1 := 6) (L1 := [some (.ref 0), some (.int what), some (.int s_), none, none, none, none]) (st1 := [.int 4, .int s_]) (s1 := s) rfl ?_
    refine UP.cI (M1 := m_X6_isBelow) (as := [.int s_, .int 4]) (rest := []) (T := F_isBelow s s_ 4) rfl rfl (ux_isBelow s s_ 4) ?_
    refine UP.ifF rfl (by rw [bl_n, hb]) ?_
    refine UP.stp 1 (i1 := 9) (L1 := [some (.ref 0), some (.int what), some (.int s_), none, none, none, none]) (st1 := [.int (-2)]) (s1 := s) rfl ?_
    exact UP.ret (r := some (.int (-2))) rfl ⟨rfl, rfl⟩
theorem gl_cwrite_0 (s : SG) (what : Int32) : F_cwrite_0 s what = G_cwrite 0 s what := by
  have e1 : m_cmp .ne (F_isBelow s 0 4) 0 = true := rfl
  have e2 : B_cwrite_0_32 what = fun i a => uset a (116 + 2 * 0) (Int32.ofNat i).toNatClampNeg (cvF (a (115 + 2 * 0) 2) (bif m_cmp .ne what 0 then a 17 i else a 16 i)) := rfl
  dsimp only [F_cwrite_0, G_cwrite]
  rw [e1, bl_e, e2]
  cases bl what 2 <;> rfl
theorem gl_cwrite_1 (s : SG) (what : Int32) : F_cwrite_1 s what = G_cwrite 1 s what := by
  have e1 : m_cmp .ne (F_isBelow s 1 4) 0 = true := rfl
  have e2 : B_cwrite_1_32 what = fun i a => uset a (116 + 2 * 1) (Int32.ofNat i).toNatClampNeg (cvF (a (115 + 2 * 1) 2) (bif m_cmp .ne what 0 then a 17 i else a 16 i)) := rfl
  dsimp only [F_cwrite_1, G_cwrite]
  rw [e1, bl_e, e2]
  cases bl what 2 <;> rfl
theorem gl_cwrite_2 (s : SG) (what : Int32) : F_cwrite_2 s what = G_cwrite 2 s what := by
  have e1 : m_cmp .ne (F_isBelow s 2 4) 0 = true := rfl
  have e2 : B_cwrite_2_32 what = fun i a => uset a (116 + 2 * 2) (Int32.ofNat i).toNatClampNeg (cvF (a (115 + 2 * 2) 2) (bif m_cmp .ne what 0 then a 17 i else a 16 i)) := rfl
  dsimp only [F_cwrite_2, G_cwrite]
  rw [e1, bl_e, e2]
  cases bl what 2 <;> rfl
theorem gl_cwrite_3 (s : SG) (what : Int32) : F_cwrite_3 s what = G_cwrite 3 s what := by
  have e1 : m_cmp .ne (F_isBelow s 3 4) 0 = true := rfl
  have e2 : B_cwrite_3_32 what = fun i a => uset a (116 + 2 * 3) (Int32.ofNat i).toNatClampNeg (cvF (a (115 + 2 * 3) 2) (bif m_cmp .ne what 0 then a 17 i else a 16 i)) := rfl
  dsimp only [F_cwrite_3, G_cwrite]
  rw [e1, bl_e, e2]
  cases bl what 2 <;> rfl
theorem cs_cwrite (s : SG) (what : Int32) (s_ : Int32) : F_cwrite s what s_ = bif bl s_ 4 then G_cwrite s_.toNatClampNeg s what else ((-2), s) := by
  unfold F_cwrite
  by_cases e0 : s_ = 0
  · rw [if_pos e0, e0, gl_cwrite_0, show bl 0 4 = true from rfl, show (0 : Int32).toNatClampNeg = 0 from rfl, cT]
  by_cases e1 : s_ = 1
  · rw [if_neg e0, if_pos e1, e1, gl_cwrite_1, show bl 1 4 = true from rfl, show (1 : Int32).toNatClampNeg = 1 from rfl, cT]
  by_cases e2 : s_ = 2
  · rw [if_neg e0, if_neg e1, if_pos e2, e2, gl_cwrite_2, show bl 2 4 = true from rfl, show (2 : Int32).toNatClampNeg = 2 from rfl, cT]
  by_cases e3 : s_ = 3
  · rw [if_neg e0, if_neg e1, if_neg e2, if_pos e3, e3, gl_cwrite_3, show bl 3 4 = true from rfl, show (3 : Int32).toNatClampNeg = 3 from rfl, cT]
  rw [if_neg e0, if_neg e1, if_neg e2, if_neg e3]
  have hb : bl s_ 4 = false := by
    cases q : bl s_ 4 with
    | false => rfl
    | true =>
      rcases bl_4.mp q with w | w | w | w
      · exact absurd w e0
      · exact absurd w e1
      · exact absurd w e2
      · exact absurd w e3
  rw [hb]
  rfl
end
