/-! river, event, back, seen, forget -/
theorem lt8 {N : Nat} (h : N ≤ 8) : m_cmp .lt (Int32.ofNat N) 8 = m_cmp .ne (Int32.ofNat N) 8 := (show ∀ N, N < 9 → m_cmp .lt (Int32.ofNat N) 8 = m_cmp .ne (Int32.ofNat N) 8 from by decide) N (by omega)
theorem ne8 {N : Nat} (h : N ≤ 8) (q : m_cmp .ne (Int32.ofNat N) 8 = true) : N < 8 := by
  apply Decidable.byContradiction
  intro w
  have w : N = 8 := by omega
  rw [w] at q
  cases q
theorem q_event {s : SG} (h : KF s) (kd mi nu : Int32) : QK (F_cevent s kd mi nu) (fun y => F_event y kd mi nu) := by
  obtain ⟨⟨hU, hC, hE, hS, hH⟩, hX⟩ := h
  obtain ⟨E1, E2, E3, E4, E5, E6, E7⟩ := hE
  obtain ⟨N, hN, eN⟩ := lenO E2 E3
  have eN2 : s 123 11 = Int32.ofNat N := E1.symm.trans eN
  have cN : (Int32.ofNat N).toNatClampNeg = N := ofn_c (by omega)
  have eC : F_cevent s kd mi nu = bif m_cmp .eq (F_isBelow s kd 3) 0 then (((-2), s)) else (bif m_cmp .eq (F_isBelow s mi 24) 0 then (((-2), s)) else (bif m_cmp .ne (F_isBelow s nu 8) 0 then (bif m_cmp .lt (s 2 3) 8 then (s 2 3 + 1, F_mark (uset (uset (uset (uset s 3 ((s 2 3).toNatClampNeg) kd) 4 ((s 2 3).toNatClampNeg) mi) 5 ((s 2 3).toNatClampNeg) nu) 2 3 (s 2 3 + 1))) else (((-4), s))) else (((-2), s)))) := rfl
  have eM : ∀ y, F_event y kd mi nu = bif m_cmp .eq (F_isThree y kd) 0 then (((-2), y)) else (bif m_cmp .eq (F_isMinute y mi) 0 then (((-2), y)) else (bif m_cmp .ne (F_isEight y nu) 0 then (bif m_cmp .ne (y 123 11) 8 then (y 123 11 + 1, uset (uset (uset (uset y 130 ((y 123 11).toNatClampNeg) kd) 131 ((y 123 11).toNatClampNeg) mi) 132 ((y 123 11).toNatClampNeg) nu) 123 11 (y 123 11 + 1)) else (((-4), y))) else (((-2), y)))) := fun _ => rfl
  have same : ∀ v : Int32, F_cevent s kd mi nu = (v, s) → F_event s kd mi nu = (v, s) → QK (F_cevent s kd mi nu) (fun y => F_event y kd mi nu) := fun v a b => by
    unfold QK
    rw [a]
    show KF (F_event s kd mi nu).2 ∧ v = (F_event s kd mi nu).1
    rw [b]
    exact ⟨⟨⟨hU, hC, ⟨E1, E2, E3, E4, E5, E6, E7⟩, hS, hH⟩, hX⟩, rfl⟩
  rw [bl_e, bl_e, bl_n, eN, cN, lt8 hN] at eC
  have eS := eM s
  rw [is3_e, isM_e, is8_n, eN2, cN] at eS
  cases q1 : bl kd 3 with
  | false =>
    rw [q1] at eC eS; (try dsimp only [nT, nF, cT, cF] at eC eS)
    exact same _ eC eS
  | true =>
    cases q2 : bl mi 24 with
    | false =>
      rw [q1, q2] at eC eS; (try dsimp only [nT, nF, cT, cF] at eC eS)
      exact same _ eC eS
    | true =>
      cases q3 : bl nu 8 with
      | false =>
        rw [q1, q2, q3] at eC eS; (try dsimp only [nT, nF, cT, cF] at eC eS)
        exact same _ eC eS
      | true =>
        cases q4 : m_cmp .ne (Int32.ofNat N) 8 with
        | false =>
          rw [q1, q2, q3, q4] at eC eS; (try dsimp only [nT, nF, cT, cF] at eC eS)
          exact same _ eC eS
        | true =>
          have l8 := ne8 hN q4
          rw [q1, q2, q3, q4] at eC; (try dsimp only [nT, nF, cT, cF] at eC); rw [ofn_s] at eC
          unfold QK
          rw [eC]
          have fu : Fr [(3, 5, none), (2, 2, some 3)] s (uset (uset (uset (uset s 3 N kd) 4 N mi) 5 N nu) 2 3 (Int32.ofNat (N + 1))) := Fr.uset rfl (Fr.uset rfl (Fr.uset rfl (Fr.uset rfl (Fr.rf _ _))))
          have u2 : uset (uset (uset (uset s 3 N kd) 4 N mi) 5 N nu) 2 3 (Int32.ofNat (N + 1)) 2 3 = Int32.ofNat (N + 1) := uset_eq _ _ _ _
          have u3 : ∀ e, uset (uset (uset (uset s 3 N kd) 4 N mi) 5 N nu) 2 3 (Int32.ofNat (N + 1)) 3 e = if e = N then kd else s 3 e := fun e => by
            rw [uset_na (by decide), uset_na (by decide), uset_na (by decide)]
            by_cases w : e = N
            · rw [if_pos w, w]; exact uset_eq _ _ _ _
            · rw [if_neg w]; exact uset_nj w
          have u4 : ∀ e, uset (uset (uset (uset s 3 N kd) 4 N mi) 5 N nu) 2 3 (Int32.ofNat (N + 1)) 4 e = if e = N then mi else s 4 e := fun e => by
            rw [uset_na (by decide), uset_na (by decide)]
            by_cases w : e = N
            · rw [if_pos w, w]; exact uset_eq _ _ _ _
            · rw [if_neg w, uset_nj w]; exact uset_na (by decide)
          have u5 : ∀ e, uset (uset (uset (uset s 3 N kd) 4 N mi) 5 N nu) 2 3 (Int32.ofNat (N + 1)) 5 e = if e = N then nu else s 5 e := fun e => by
            rw [uset_na (by decide)]
            by_cases w : e = N
            · rw [if_pos w, w]; exact uset_eq _ _ _ _
            · rw [if_neg w, uset_nj w, uset_na (by decide)]; exact uset_na (by decide)
          generalize uset (uset (uset (uset s 3 N kd) 4 N mi) 5 N nu) 2 3 (Int32.ofNat (N + 1)) = u at *
          have fm := fr_mark u
          have x12 : F_mark u 0 12 = 1 := rfl
          have x13 : F_mark u 0 13 = 1 := rfl
          generalize F_mark u = c at *
          have c11 : c 123 11 = Int32.ofNat N := (fm 123 11 rfl).trans ((fu 123 11 rfl).trans eN2)
          show KF (F_event c kd mi nu).2 ∧ Int32.ofNat (N + 1) = (F_event c kd mi nu).1
          rw [eM, is3_e, isM_e, is8_n, c11, cN, q1, q2, q3, q4]; (try dsimp only [nT, nF, cT, cF]); rw [ofn_s]
          show KF (uset (uset (uset (uset c 130 N kd) 131 N mi) 132 N nu) 123 11 (Int32.ofNat (N + 1))) ∧ Int32.ofNat (N + 1) = Int32.ofNat (N + 1)
          have ff : Fr [(130, 132, none), (123, 123, some 11)] c (uset (uset (uset (uset c 130 N kd) 131 N mi) 132 N nu) 123 11 (Int32.ofNat (N + 1))) := Fr.uset rfl (Fr.uset rfl (Fr.uset rfl (Fr.uset rfl (Fr.rf _ _))))
          have v2 : uset (uset (uset (uset c 130 N kd) 131 N mi) 132 N nu) 123 11 (Int32.ofNat (N + 1)) 123 11 = Int32.ofNat (N + 1) := uset_eq _ _ _ _
          have v3 : ∀ e, uset (uset (uset (uset c 130 N kd) 131 N mi) 132 N nu) 123 11 (Int32.ofNat (N + 1)) 130 e = if e = N then kd else c 130 e := fun e => by
            rw [uset_na (by decide), uset_na (by decide), uset_na (by decide)]
            by_cases w : e = N
            · rw [if_pos w, w]; exact uset_eq _ _ _ _
            · rw [if_neg w]; exact uset_nj w
          have v4 : ∀ e, uset (uset (uset (uset c 130 N kd) 131 N mi) 132 N nu) 123 11 (Int32.ofNat (N + 1)) 131 e = if e = N then mi else c 131 e := fun e => by
            rw [uset_na (by decide), uset_na (by decide)]
            by_cases w : e = N
            · rw [if_pos w, w]; exact uset_eq _ _ _ _
            · rw [if_neg w, uset_nj w]; exact uset_na (by decide)
          have v5 : ∀ e, uset (uset (uset (uset c 130 N kd) 131 N mi) 132 N nu) 123 11 (Int32.ofNat (N + 1)) 132 e = if e = N then nu else c 132 e := fun e => by
            rw [uset_na (by decide)]
            by_cases w : e = N
            · rw [if_pos w, w]; exact uset_eq _ _ _ _
            · rw [if_neg w, uset_nj w, uset_na (by decide)]; exact uset_na (by decide)
          generalize uset (uset (uset (uset c 130 N kd) 131 N mi) 132 N nu) 123 11 (Int32.ofNat (N + 1)) = f at *
          have ft : Fr [(3, 5, none), (2, 2, some 3), (0, 0, some 12), (0, 0, some 13), (130, 132, none), (123, 123, some 11)] s f := ((fu.wk rfl).tr (fm.wk rfl)).tr (ff.wk rfl)
          have y2 : f 2 3 = Int32.ofNat (N + 1) := (ff 2 3 rfl).trans ((fm 2 3 rfl).trans u2)
          have y3 : ∀ e, f 3 e = if e = N then kd else s 3 e := fun e => (ff 3 e rfl).trans ((fm 3 e rfl).trans (u3 e))
          have y4 : ∀ e, f 4 e = if e = N then mi else s 4 e := fun e => (ff 4 e rfl).trans ((fm 4 e rfl).trans (u4 e))
          have y5 : ∀ e, f 5 e = if e = N then nu else s 5 e := fun e => (ff 5 e rfl).trans ((fm 5 e rfl).trans (u5 e))
          have cN1 : (Int32.ofNat (N + 1)).toNatClampNeg = N + 1 := ofn_c (by omega)
          refine ⟨⟨⟨hU.ag (ft.ag DT rfl), hC.ag (ft.ag DC rfl), ⟨y2.trans v2.symm, ?_, ?_, fun e he => ⟨?_, ?_, ?_⟩, ?_, ?_, ?_⟩, hS.ag (ft.ag DS rfl), hH.ag (ft.ag DH rfl)⟩, KX.stale ((ff 0 12 rfl).trans x12) ((ff 0 13 rfl).trans x13)⟩, rfl⟩
          · rw [y2, ofn_int (by omega)]; omega
          · rw [y2, cN1]; omega
          · rw [y3, v3, (E4 e he).1, fm 130 e rfl, fu 130 e rfl]
          · rw [y4, v4, (E4 e he).2.1, fm 131 e rfl, fu 131 e rfl]
          · rw [y5, v5, (E4 e he).2.2, fm 132 e rfl, fu 132 e rfl]
          · intro e he
            rw [y2, cN1] at he
            rw [y3, y4]
            by_cases w : e = N
            · rw [if_pos w, if_pos w]
              obtain ⟨em, lm⟩ := bl_ofn q2
              exact ⟨bl_3.mp q1, _, lm, em⟩
            · rw [if_neg w, if_neg w]
              exact E5 e (by rw [eN, cN]; omega)
          · rw [ft 10 5 rfl, ft 123 9 rfl]; exact E6
          · rw [ft 10 6 rfl, ft 123 10 rfl]; exact E7
theorem q_back {s : SG} (h : KF s) : QK (F_cback s) (fun y => F_back y) := by
  obtain ⟨⟨hU, hC, hE, hS, hH⟩, hX⟩ := h
  obtain ⟨E1, E2, E3, E4, E5, E6, E7⟩ := hE
  obtain ⟨N, hN, eN⟩ := lenO E2 E3
  have eN2 : s 123 11 = Int32.ofNat N := E1.symm.trans eN
  have eC : F_cback s = bif m_cmp .ne (s 2 3) 0 then (s 2 3 - 1, F_mark (uset s 2 3 (s 2 3 - 1))) else (((-3), s)) := rfl
  have eM : ∀ y, F_back y = bif m_cmp .ne (y 123 11) 0 then (y 123 11 - 1, uset y 123 11 (y 123 11 - 1)) else (((-3), y)) := fun _ => rfl
  unfold QK
  rw [eN] at eC
  cases N with
  | zero =>
    have eC : F_cback s = ((-3), s) := eC
    rw [eC]
    show KF (F_back s).2 ∧ -3 = (F_back s).1
    have eS := eM s
    rw [eN2] at eS
    have eS : F_back s = ((-3), s) := eS
    rw [eS]
    exact ⟨⟨⟨hU, hC, ⟨E1, E2, E3, E4, E5, E6, E7⟩, hS, hH⟩, hX⟩, rfl⟩
  | succ M =>
    have e1 : Int32.ofNat (M + 1) - 1 = Int32.ofNat M := by
      rw [← ofn_s]
      exact Int32.add_sub_cancel _ _
    have e2 : m_cmp .ne (Int32.ofNat (M + 1)) 0 = true := m_ne_iff.mpr (fun w => by
      have w := congrArg Int32.toInt w
      rw [ofn_int (by omega)] at w
      have e : (0 : Int32).toInt = 0 := by decide
      omega)
    rw [e2, e1] at eC; (try dsimp only [nT, nF, cT, cF] at eC)
    rw [eC]
    have fu : Fr [(2, 2, some 3)] s (uset s 2 3 (Int32.ofNat M)) := Fr.uset rfl (Fr.rf _ _)
    have u2 : uset s 2 3 (Int32.ofNat M) 2 3 = Int32.ofNat M := uset_eq _ _ _ _
    generalize uset s 2 3 (Int32.ofNat M) = u at *
    have fm := fr_mark u
    have x12 : F_mark u 0 12 = 1 := rfl
    have x13 : F_mark u 0 13 = 1 := rfl
    generalize F_mark u = c at *
    have c11 : c 123 11 = Int32.ofNat (M + 1) := (fm 123 11 rfl).trans ((fu 123 11 rfl).trans eN2)
    show KF (F_back c).2 ∧ Int32.ofNat M = (F_back c).1
    rw [eM, c11, e2, e1]; (try dsimp only [nT, nF, cT, cF])
    show KF (uset c 123 11 (Int32.ofNat M)) ∧ Int32.ofNat M = Int32.ofNat M
    have ff : Fr [(123, 123, some 11)] c (uset c 123 11 (Int32.ofNat M)) := Fr.uset rfl (Fr.rf _ _)
    have v2 : uset c 123 11 (Int32.ofNat M) 123 11 = Int32.ofNat M := uset_eq _ _ _ _
    generalize uset c 123 11 (Int32.ofNat M) = f at *
    have ft : Fr [(2, 2, some 3), (0, 0, some 12), (0, 0, some 13), (123, 123, some 11)] s f := ((fu.wk rfl).tr (fm.wk rfl)).tr (ff.wk rfl)
    have y2 : f 2 3 = Int32.ofNat M := (ff 2 3 rfl).trans ((fm 2 3 rfl).trans u2)
    have cM : (Int32.ofNat M).toNatClampNeg = M := ofn_c (by omega)
    have cM1 : (Int32.ofNat (M + 1)).toNatClampNeg = M + 1 := ofn_c (by omega)
    refine ⟨⟨⟨hU.ag (ft.ag DT rfl), hC.ag (ft.ag DC rfl), ⟨y2.trans v2.symm, ?_, ?_, fun e he => ?_, ?_, ?_, ?_⟩, hS.ag (ft.ag DS rfl), hH.ag (ft.ag DH rfl)⟩, KX.stale ((ff 0 12 rfl).trans x12) ((ff 0 13 rfl).trans x13)⟩, rfl⟩
    · rw [y2, ofn_int (by omega)]; omega
    · rw [y2, cM]; omega
    · rw [ft 3 e rfl, ft 4 e rfl, ft 5 e rfl, ft 130 e rfl, ft 131 e rfl, ft 132 e rfl]; exact E4 e he
    · intro e he
      rw [y2, cM] at he
      rw [ft 3 e rfl, ft 4 e rfl]
      exact E5 e (by rw [eN, cM1]; omega)
    · rw [ft 10 5 rfl, ft 123 9 rfl]; exact E6
    · rw [ft 10 6 rfl, ft 123 10 rfl]; exact E7
theorem q_seen {s : SG} (h : KF s) (mi pl : Int32) : QK (F_cseen s mi pl) (fun y => F_seen y mi pl) := by
  obtain ⟨⟨hU, hC, hE, hS, hH⟩, hX⟩ := h
  obtain ⟨S1, S2, S3, S4, S5⟩ := hS
  obtain ⟨N, hN, eN⟩ := lenO S2 S3
  have eN2 : s 123 37 = Int32.ofNat N := S1.symm.trans eN
  have cN : (Int32.ofNat N).toNatClampNeg = N := ofn_c (by omega)
  have eC : F_cseen s mi pl = bif m_cmp .eq (F_isBelow s mi 24) 0 then (((-2), s)) else (bif m_cmp .ne (F_isBelow s pl 21) 0 then (bif m_cmp .lt (s 6 2) 8 then (s 6 2 + 1, uset (uset (uset s 7 ((s 6 2).toNatClampNeg) mi) 8 ((s 6 2).toNatClampNeg) pl) 6 2 (s 6 2 + 1)) else (((-4), s))) else (((-2), s))) := rfl
  have eM : ∀ y, F_seen y mi pl = bif m_cmp .eq (F_isMinute y mi) 0 then (((-2), y)) else (bif m_cmp .ne (F_in y pl 0 20) 0 then (bif m_cmp .ne (y 123 37) 8 then (y 123 37 + 1, uset (uset (uset y 145 ((y 123 37).toNatClampNeg) mi) 146 ((y 123 37).toNatClampNeg) pl) 123 37 (y 123 37 + 1)) else (((-4), y))) else (((-2), y))) := fun _ => rfl
  have same : ∀ v : Int32, F_cseen s mi pl = (v, s) → F_seen s mi pl = (v, s) → QK (F_cseen s mi pl) (fun y => F_seen y mi pl) := fun v a b => by
    unfold QK
    rw [a]
    show KF (F_seen s mi pl).2 ∧ v = (F_seen s mi pl).1
    rw [b]
    exact ⟨⟨⟨hU, hC, hE, ⟨S1, S2, S3, S4, S5⟩, hH⟩, hX⟩, rfl⟩
  rw [bl_e, bl_n, eN, cN, lt8 hN] at eC
  have eS := eM s
  rw [isM_e, in_n s pl 20 21 rfl, eN2, cN] at eS
  cases q2 : bl mi 24 with
  | false =>
    rw [q2] at eC eS; (try dsimp only [nT, nF, cT, cF] at eC eS)
    exact same _ eC eS
  | true =>
    cases q3 : bl pl 21 with
    | false =>
      rw [q2, q3] at eC eS; (try dsimp only [nT, nF, cT, cF] at eC eS)
      exact same _ eC eS
    | true =>
      cases q4 : m_cmp .ne (Int32.ofNat N) 8 with
      | false =>
        rw [q2, q3, q4] at eC eS; (try dsimp only [nT, nF, cT, cF] at eC eS)
        exact same _ eC eS
      | true =>
        have l8 := ne8 hN q4
        rw [q2, q3, q4] at eC; (try dsimp only [nT, nF, cT, cF] at eC); rw [ofn_s] at eC
        unfold QK
        rw [eC]
        have fu : Fr [(7, 8, none), (6, 6, some 2)] s (uset (uset (uset s 7 N mi) 8 N pl) 6 2 (Int32.ofNat (N + 1))) := Fr.uset rfl (Fr.uset rfl (Fr.uset rfl (Fr.rf _ _)))
        have u2 : uset (uset (uset s 7 N mi) 8 N pl) 6 2 (Int32.ofNat (N + 1)) 6 2 = Int32.ofNat (N + 1) := uset_eq _ _ _ _
        have u3 : ∀ e, uset (uset (uset s 7 N mi) 8 N pl) 6 2 (Int32.ofNat (N + 1)) 7 e = if e = N then mi else s 7 e := fun e => by
          rw [uset_na (by decide), uset_na (by decide)]
          by_cases w : e = N
          · rw [if_pos w, w]; exact uset_eq _ _ _ _
          · rw [if_neg w]; exact uset_nj w
        have u4 : ∀ e, uset (uset (uset s 7 N mi) 8 N pl) 6 2 (Int32.ofNat (N + 1)) 8 e = if e = N then pl else s 8 e := fun e => by
          rw [uset_na (by decide)]
          by_cases w : e = N
          · rw [if_pos w, w]; exact uset_eq _ _ _ _
          · rw [if_neg w, uset_nj w]; exact uset_na (by decide)
        generalize uset (uset (uset s 7 N mi) 8 N pl) 6 2 (Int32.ofNat (N + 1)) = c at *
        have c11 : c 123 37 = Int32.ofNat N := (fu 123 37 rfl).trans eN2
        show KF (F_seen c mi pl).2 ∧ Int32.ofNat (N + 1) = (F_seen c mi pl).1
        rw [eM, isM_e, in_n c pl 20 21 rfl, c11, cN, q2, q3, q4]; (try dsimp only [nT, nF, cT, cF]); rw [ofn_s]
        show KF (uset (uset (uset c 145 N mi) 146 N pl) 123 37 (Int32.ofNat (N + 1))) ∧ Int32.ofNat (N + 1) = Int32.ofNat (N + 1)
        have ff : Fr [(145, 146, none), (123, 123, some 37)] c (uset (uset (uset c 145 N mi) 146 N pl) 123 37 (Int32.ofNat (N + 1))) := Fr.uset rfl (Fr.uset rfl (Fr.uset rfl (Fr.rf _ _)))
        have v2 : uset (uset (uset c 145 N mi) 146 N pl) 123 37 (Int32.ofNat (N + 1)) 123 37 = Int32.ofNat (N + 1) := uset_eq _ _ _ _
        have v3 : ∀ e, uset (uset (uset c 145 N mi) 146 N pl) 123 37 (Int32.ofNat (N + 1)) 145 e = if e = N then mi else c 145 e := fun e => by
          rw [uset_na (by decide), uset_na (by decide)]
          by_cases w : e = N
          · rw [if_pos w, w]; exact uset_eq _ _ _ _
          · rw [if_neg w]; exact uset_nj w
        have v4 : ∀ e, uset (uset (uset c 145 N mi) 146 N pl) 123 37 (Int32.ofNat (N + 1)) 146 e = if e = N then pl else c 146 e := fun e => by
          rw [uset_na (by decide)]
          by_cases w : e = N
          · rw [if_pos w, w]; exact uset_eq _ _ _ _
          · rw [if_neg w, uset_nj w]; exact uset_na (by decide)
        generalize uset (uset (uset c 145 N mi) 146 N pl) 123 37 (Int32.ofNat (N + 1)) = f at *
        have ft : Fr [(7, 8, none), (6, 6, some 2), (145, 146, none), (123, 123, some 37)] s f := (fu.wk rfl).tr (ff.wk rfl)
        have y2 : f 6 2 = Int32.ofNat (N + 1) := (ff 6 2 rfl).trans u2
        have y3 : ∀ e, f 7 e = if e = N then mi else s 7 e := fun e => (ff 7 e rfl).trans (u3 e)
        have y4 : ∀ e, f 8 e = if e = N then pl else s 8 e := fun e => (ff 8 e rfl).trans (u4 e)
        have cN1 : (Int32.ofNat (N + 1)).toNatClampNeg = N + 1 := ofn_c (by omega)
        refine ⟨⟨⟨hU.ag (ft.ag DT rfl), hC.ag (ft.ag DC rfl), hE.ag (ft.ag DE rfl), ⟨y2.trans v2.symm, ?_, ?_, fun e he => ⟨?_, ?_⟩, ?_⟩, hH.ag (ft.ag DH rfl)⟩, hX.ag (ft.ag DX rfl)⟩, rfl⟩
        · rw [y2, ofn_int (by omega)]; omega
        · rw [y2, cN1]; omega
        · rw [y3, v3, (S4 e he).1, fu 145 e rfl]
        · rw [y4, v4, (S4 e he).2, fu 146 e rfl]
        · intro e he
          rw [y2, cN1] at he
          rw [y3]
          by_cases w : e = N
          · rw [if_pos w]
            obtain ⟨em, lm⟩ := bl_ofn q2
            exact ⟨_, lm, em⟩
          · rw [if_neg w]
            exact S5 e (by rw [eN, cN]; omega)
theorem q_forget {s : SG} (h : KF s) : QK (F_cforget s) (fun y => F_forget y) := by
  obtain ⟨⟨hU, hC, hE, hS, hH⟩, hX⟩ := h
  obtain ⟨S1, S2, S3, S4, S5⟩ := hS
  have eC : F_cforget s = (s 6 2, uset s 6 2 0) := rfl
  have eM : ∀ y, F_forget y = (y 123 37, uset y 123 37 0) := fun _ => rfl
  unfold QK
  rw [eC]
  have fu : Fr [(6, 6, some 2)] s (uset s 6 2 0) := Fr.uset rfl (Fr.rf _ _)
  have u2 : uset s 6 2 0 6 2 = 0 := uset_eq _ _ _ _
  generalize uset s 6 2 0 = c at *
  show KF (F_forget c).2 ∧ s 6 2 = (F_forget c).1
  rw [eM]
  show KF (uset c 123 37 0) ∧ s 6 2 = c 123 37
  have ff : Fr [(123, 123, some 37)] c (uset c 123 37 0) := Fr.uset rfl (Fr.rf _ _)
  have v2 : uset c 123 37 0 123 37 = 0 := uset_eq _ _ _ _
  generalize uset c 123 37 0 = f at *
  have ft : Fr [(6, 6, some 2), (123, 123, some 37)] s f := (fu.wk rfl).tr (ff.wk rfl)
  have y2 : f 6 2 = 0 := (ff 6 2 rfl).trans u2
  refine ⟨⟨⟨hU.ag (ft.ag DT rfl), hC.ag (ft.ag DC rfl), hE.ag (ft.ag DE rfl), ⟨y2.trans v2.symm, ?_, ?_, fun e he => ?_, ?_⟩, hH.ag (ft.ag DH rfl)⟩, hX.ag (ft.ag DX rfl)⟩, by rw [fu 123 37 rfl]; exact S1⟩
  · rw [y2]; decide
  · rw [y2]; decide
  · rw [ft 7 e rfl, ft 8 e rfl, ft 145 e rfl, ft 146 e rfl]; exact S4 e he
  · intro e he
    rw [y2] at he
    have e0 : (0 : Int32).toNatClampNeg = 0 := rfl
    omega
theorem k_river {s : SG} (h : KF s) (w v : Int32) : KF (F_river (F_criver s w v).2 w v).2 := by
  obtain ⟨⟨hU, hC, hE, hS, hH⟩, hX⟩ := h
  obtain ⟨E1, E2, E3, E4, E5, E6, E7⟩ := hE
  have hK : KF s := ⟨⟨hU, hC, ⟨E1, E2, E3, E4, E5, E6, E7⟩, hS, hH⟩, hX⟩
  by_cases e0 : w = 0
  · subst e0
    have eC : F_criver s 0 v = bif m_cmp .ne (F_isBelow s v 10) 0 then (s 10 5, F_mark (uset s 10 5 v)) else ((-2), s) := rfl
    have eM : ∀ y, F_river y 0 v = bif m_cmp .eq (F_in y v 0 9) 0 then ((-2), y) else (y 123 9, uset (uset y 123 9 v) 123 10 (y 123 10)) := fun _ => rfl
    rw [eC, bl_n]
    cases q : bl v 10 with
    | false =>
      (try dsimp only [nT, nF, cT, cF])
      show KF (F_river s 0 v).2
      rw [eM, in_e s v 9 10 rfl, q]; (try dsimp only [nT, nF, cT, cF])
      exact hK
    | true =>
      (try dsimp only [nT, nF, cT, cF])
      have fu : Fr [(10, 10, some 5)] s (uset s 10 5 v) := Fr.uset rfl (Fr.rf _ _)
      have u2 : uset s 10 5 v 10 5 = v := uset_eq _ _ _ _
      show KF (F_river (F_mark (uset s 10 5 v)) 0 v).2
      generalize uset s 10 5 v = u at *
      have fm := fr_mark u
      have x12 : F_mark u 0 12 = 1 := rfl
      have x13 : F_mark u 0 13 = 1 := rfl
      generalize F_mark u = c at *
      rw [eM, in_e c v 9 10 rfl, q]; (try dsimp only [nT, nF, cT, cF])
      show KF (uset (uset c 123 9 v) 123 10 (c 123 10))
      have ff : Fr [(123, 123, some 9), (123, 123, some 10)] c (uset (uset c 123 9 v) 123 10 (c 123 10)) := Fr.uset rfl (Fr.uset rfl (Fr.rf _ _))
      have v2 : uset (uset c 123 9 v) 123 10 (c 123 10) 123 9 = v := (uset_nj (by decide)).trans (uset_eq _ _ _ _)
      have v3 : uset (uset c 123 9 v) 123 10 (c 123 10) 123 10 = c 123 10 := uset_eq _ _ _ _
      generalize uset (uset c 123 9 v) 123 10 (c 123 10) = f at *
      have ft : Fr [(10, 10, some 5), (0, 0, some 12), (0, 0, some 13), (123, 123, some 9), (123, 123, some 10)] s f := ((fu.wk rfl).tr (fm.wk rfl)).tr (ff.wk rfl)
      refine ⟨⟨hU.ag (ft.ag DT rfl), hC.ag (ft.ag DC rfl), ⟨?_, ?_, ?_, fun e he => ?_, ?_, ?_, ?_⟩, hS.ag (ft.ag DS rfl), hH.ag (ft.ag DH rfl)⟩, KX.stale ((ff 0 12 rfl).trans x12) ((ff 0 13 rfl).trans x13)⟩
      · rw [ft 2 3 rfl, ft 123 11 rfl]; exact E1
      · rw [ft 2 3 rfl]; exact E2
      · rw [ft 2 3 rfl]; exact E3
      · rw [ft 3 e rfl, ft 4 e rfl, ft 5 e rfl, ft 130 e rfl, ft 131 e rfl, ft 132 e rfl]; exact E4 e he
      · intro e he
        rw [ft 2 3 rfl] at he
        rw [ft 3 e rfl, ft 4 e rfl]
        exact E5 e he
      · rw [v2, ff 10 5 rfl, fm 10 5 rfl]; exact u2
      · rw [v3, ft 10 6 rfl, fm 123 10 rfl, fu 123 10 rfl]; exact E7
  · by_cases e1 : w = 1
    · subst e1
      have eC : F_criver s 1 v = F_tellHome s v := rfl
      have eH : F_tellHome s v = bif m_cmp .lt v 50 then (((-2), s)) else (bif m_cmp .le v 999 then (s 10 6, F_mark (uset s 10 6 v)) else (((-2), s))) := rfl
      have eM : ∀ y, F_river y 1 v = bif m_cmp .ne (F_in y v 50 999) 0 then (y 123 10, uset (uset y 123 9 (y 123 9)) 123 10 v) else ((-2), y) := fun _ => rfl
      have eI : ∀ y, m_cmp .ne (F_in y v 50 999) 0 = bif m_cmp .lt v 50 then false else m_cmp .le v 999 := fun y => by
        unfold F_in
        dsimp only
        rw [gt_le]
        cases m_cmp .lt v 50
        · cases m_cmp .le v 999 <;> rfl
        · rfl
      rw [eC, eH]
      cases q : m_cmp .lt v 50 with
      | true =>
        (try dsimp only [nT, nF, cT, cF])
        show KF (F_river s 1 v).2
        rw [eM, eI, q]; (try dsimp only [nT, nF, cT, cF])
        exact hK
      | false =>
        cases q2 : m_cmp .le v 999 with
        | false =>
          (try dsimp only [nT, nF, cT, cF])
          show KF (F_river s 1 v).2
          rw [eM, eI, q, q2]; (try dsimp only [nT, nF, cT, cF])
          exact hK
        | true =>
          (try dsimp only [nT, nF, cT, cF])
          have fu : Fr [(10, 10, some 6)] s (uset s 10 6 v) := Fr.uset rfl (Fr.rf _ _)
          have u2 : uset s 10 6 v 10 6 = v := uset_eq _ _ _ _
          show KF (F_river (F_mark (uset s 10 6 v)) 1 v).2
          generalize uset s 10 6 v = u at *
          have fm := fr_mark u
          have x12 : F_mark u 0 12 = 1 := rfl
          have x13 : F_mark u 0 13 = 1 := rfl
          generalize F_mark u = c at *
          rw [eM, eI, q, q2]; (try dsimp only [nT, nF, cT, cF])
          show KF (uset (uset c 123 9 (c 123 9)) 123 10 v)
          have ff : Fr [(123, 123, some 9), (123, 123, some 10)] c (uset (uset c 123 9 (c 123 9)) 123 10 v) := Fr.uset rfl (Fr.uset rfl (Fr.rf _ _))
          have v2 : uset (uset c 123 9 (c 123 9)) 123 10 v 123 9 = c 123 9 := (uset_nj (by decide)).trans (uset_eq _ _ _ _)
          have v3 : uset (uset c 123 9 (c 123 9)) 123 10 v 123 10 = v := uset_eq _ _ _ _
          generalize uset (uset c 123 9 (c 123 9)) 123 10 v = f at *
          have ft : Fr [(10, 10, some 6), (0, 0, some 12), (0, 0, some 13), (123, 123, some 9), (123, 123, some 10)] s f := ((fu.wk rfl).tr (fm.wk rfl)).tr (ff.wk rfl)
          refine ⟨⟨hU.ag (ft.ag DT rfl), hC.ag (ft.ag DC rfl), ⟨?_, ?_, ?_, fun e he => ?_, ?_, ?_, ?_⟩, hS.ag (ft.ag DS rfl), hH.ag (ft.ag DH rfl)⟩, KX.stale ((ff 0 12 rfl).trans x12) ((ff 0 13 rfl).trans x13)⟩
          · rw [ft 2 3 rfl, ft 123 11 rfl]; exact E1
          · rw [ft 2 3 rfl]; exact E2
          · rw [ft 2 3 rfl]; exact E3
          · rw [ft 3 e rfl, ft 4 e rfl, ft 5 e rfl, ft 130 e rfl, ft 131 e rfl, ft 132 e rfl]; exact E4 e he
          · intro e he
            rw [ft 2 3 rfl] at he
            rw [ft 3 e rfl, ft 4 e rfl]
            exact E5 e he
          · rw [v2, ft 10 5 rfl, fm 123 9 rfl, fu 123 9 rfl]; exact E6
          · rw [v3, ff 10 6 rfl, fm 10 6 rfl]; exact u2
    · have eC : F_criver s w v = ((-2), s) := by
        have a : m_cmp .ne w 0 = true := m_ne_iff.mpr e0
        have b : m_cmp .ne w 1 = true := m_ne_iff.mpr e1
        dsimp only [F_criver]
        rw [a, b]; (try dsimp only [nT, nF, cT, cF])
      have hb : bl w 2 = false := by
        cases q : bl w 2 with
        | false => rfl
        | true =>
          rcases bl_2.mp q with x | x
          · exact absurd x e0
          · exact absurd x e1
      have eM : F_river s w v = ((-2), s) := by
        dsimp only [F_river]
        rw [is2_e, hb]; (try dsimp only [nT, nF, cT, cF])
      rw [eC]
      show KF (F_river s w v).2
      rw [eM]
      exact hK
/-- counts -/
theorem q_count {s : SG} (h : KF s) (w : Int32) : F_ccount s w = (F_count s w).1 := by
  obtain ⟨⟨hU, hC, hE, hS, hH⟩, -⟩ := h
  have d := kd hU.1 hC
  obtain ⟨-, f1, f2⟩ := faults hU.1
  obtain ⟨-, R1, R2, M1, M2, -⟩ := flM hU.1.1
  have n1 : F_reads s 123 5 = bif m_cmp .ne (F_cfault_1 s) (-1) then (0 : Int32) else s 111 1 := by
    have e : F_cfault_1 s = F_signFault_1 s := rfl
    rw [M1, e, f1, R1, hU.1.2.2.1]
    rfl
  have n2 : F_reads s 123 7 = bif m_cmp .ne (F_cfault_2 s) (-1) then (0 : Int32) else s 113 1 := by
    have e : F_cfault_2 s = F_signFault_2 s := rfl
    rw [M2, e, f2, R2, hU.1.2.2.2.1]
    rfl
  have eT : F_tellOf s w = (bif m_cmp .ne w 0 then (bif m_cmp .ne w 1 then F_reads s 123 7 else F_reads s 123 5) else F_reads s 123 2, F_reads s) := rfl
  obtain ⟨E1, -, -, -, -, E6, E7⟩ := hE
  by_cases e0 : w = 0
  · rw [e0]
    have eC : F_ccount s 0 = s 10 0 := rfl
    have eM : (F_count s 0).1 = F_reads s 123 2 := rfl
    rw [eC, eM]
    exact d.1
  by_cases e1 : w = 1
  · rw [e1]
    have eC : F_ccount s 1 = (bif m_cmp .ne (F_cfault_1 s) (-1) then (0 : Int32) else s 111 1) := rfl
    have eM : (F_count s 1).1 = F_reads s 123 5 := rfl
    rw [eC, eM]
    exact n1.symm
  by_cases e2 : w = 2
  · rw [e2]
    have eC : F_ccount s 2 = (bif m_cmp .ne (F_cfault_2 s) (-1) then (0 : Int32) else s 113 1) := rfl
    have eM : (F_count s 2).1 = F_reads s 123 7 := rfl
    rw [eC, eM]
    exact n2.symm
  by_cases e3 : w = 3
  · rw [e3]
    have eC : F_ccount s 3 = ((s 109 1) + (s 111 1)) + (s 113 1) := rfl
    have eM : (F_count s 3).1 = ((s 124 0) + (s 124 1)) + (s 124 2) := rfl
    rw [eC, eM, hU.1.2.1, hU.1.2.2.1, hU.1.2.2.2.1]
  by_cases e4 : w = 4
  · rw [e4]
    have eC : F_ccount s 4 = s 2 3 := rfl
    have eM : (F_count s 4).1 = s 123 11 := rfl
    rw [eC, eM]
    exact E1
  by_cases e5 : w = 5
  · rw [e5]
    have eC : F_ccount s 5 = s 10 5 := rfl
    have eM : (F_count s 5).1 = s 123 9 := rfl
    rw [eC, eM]
    exact E6
  by_cases e6 : w = 6
  · rw [e6]
    have eC : F_ccount s 6 = s 10 6 := rfl
    have eM : (F_count s 6).1 = s 123 10 := rfl
    rw [eC, eM]
    exact E7
  by_cases e7 : w = 7
  · rw [e7]
    have eC : F_ccount s 7 = s 6 2 := rfl
    have eM : (F_count s 7).1 = s 123 37 := rfl
    rw [eC, eM]
    exact hS.1
  by_cases e8 : w = 8
  · rw [e8]
    have eC : F_ccount s 8 = s 0 4 := rfl
    have eM : (F_count s 8).1 = s 123 46 := rfl
    rw [eC, eM]
    exact hH.2
  have n : ∀ k : Int32, w ≠ k → m_cmp .eq w k = false := fun k hk => by
    cases q : m_cmp .eq w k with
    | false => rfl
    | true => exact absurd (m_eq_iff.mp q) hk
  dsimp only [F_ccount, F_count]
  rw [n 0 e0, n 1 e1, n 2 e2, n 3 e3, n 4 e4, n 5 e5, n 6 e6, n 7 e7, n 8 e8]
  rfl
