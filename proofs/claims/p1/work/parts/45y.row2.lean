/-! the class: who pulls (printed by wip/u/mk_row2.py) -/
def PuC_a (s : SG) (J : TI) (t : Nat) (x : TS) (i : Nat) (p : SG × Int32 × Int32) : Prop := Fr W_pullAll_a s p.1 ∧ p.1 18 = s 18 ∧ p.1 19 = s 19 ∧ p.2 = lrs J t x i ∧ (∀ k, k < 8 → (p.1 46 k = if k < i then mn' J t x k else s 46 k) ∧ (p.1 47 k = if k < i then sm' J t x k else s 47 k) ∧ (p.1 (22 + t) k = if k < i then pul J t x k else s (22 + t) k)) ∧ ∀ b j, 22 ≤ b → b ≤ 45 → b ≠ 22 + t → p.1 b j = s b j
theorem puC_a {s : SG} {J : TI} {t : Nat} {x : TS} (ht : t < 24) (hn : jn J = (s 10 0).toNatClampNeg) (hn8 : jn J ≤ 8) (hse : ∀ k, k < 8 → jse J k = Int32.ofNat k) (hra : s 13 t = jra J t) (hb : s 50 t = (jbe J t).1) (hth : s 15 8 = sth x) (hfs : ∀ k, k < jn J → s 48 k = frs (jso J k) (jpo J k)) (hla : ∀ k, k < jn J → s 49 k = ltr (jso J k) (jpo J k)) (hmn : ∀ k, k < jn J → s 46 k = smn x k) (hsm : ∀ k, k < jn J → s 47 k = ssm x k) : F_pullAll_a s t 18 t = (lrs J t x (jn J)).1 ∧ F_pullAll_a s t 19 t = (lrs J t x (jn J)).2 ∧ (∀ j, j ≠ t → F_pullAll_a s t 18 j = s 18 j ∧ F_pullAll_a s t 19 j = s 19 j) ∧ (∀ k, k < jn J → F_pullAll_a s t 46 k = mn' J t x k ∧ F_pullAll_a s t 47 k = sm' J t x k ∧ F_pullAll_a s t (22 + t) k = pul J t x k) ∧ ∀ b j, 22 ≤ b → b ≤ 45 → b ≠ 22 + t → F_pullAll_a s t b j = s b j := by
  have hv3 : ∃ v3, v3 = (bif m_cmp .eq (bif m_cmp .ne (s 15 8) (-1) then (0 : Int32) else (bif m_cmp .le (s 13 t) 0 then (0 : Int32) else (1 : Int32))) 0 then (255 : Int32) else s 50 t) ∧ ∀ k, k < 8 → m_cmp .ne ((v3 >>> ((Int32.ofNat k) &&& 31)) &&& 1) 0 = !(pon J t x k) := by
    refine ⟨_, rfl, fun k hk => ?_⟩
    unfold pon
    rw [hth, hra, hse k hk, hb]
    cases m_cmp .ne (sth x) (-1) with
    | true => exact bit255 k hk
    | false =>
      cases m_cmp .le (jra J t) 0 with
      | true => exact bit255 k hk
      | false =>
        show m_cmp .ne (((jbe J t).1 >>> ((Int32.ofNat k) &&& 31)) &&& 1) 0 = _
        cases m_cmp .ne (((jbe J t).1 >>> ((Int32.ofNat k) &&& 31)) &&& 1) 0 <;> rfl
  obtain ⟨v3, ev, hv⟩ := hv3
  have eF : F_pullAll_a s t = uset (uset (itr (B_pullAll_a_33 t v3) 0 (s 10 0).toNatClampNeg (s, 0, 0)).1 18 t (itr (B_pullAll_a_33 t v3) 0 (s 10 0).toNatClampNeg (s, 0, 0)).2.1) 19 t (itr (B_pullAll_a_33 t v3) 0 (s 10 0).toNatClampNeg (s, 0, 0)).2.2 := by
    rw [ev]
    rfl
  have key : ∀ i, i ≤ jn J → PuC_a s J t x i (itr (B_pullAll_a_33 t v3) 0 i (s, 0, 0)) := by
    refine itr_ind (PuC_a s J t x) _ ?_ ?_
    · refine ⟨Fr.rf _ _, rfl, rfl, rfl, fun k _ => ⟨?_, ?_, ?_⟩, fun b j _ _ _ => rfl⟩ <;> rw [if_neg (by omega)]
    · intro i p hi h
      obtain ⟨f, a1, a2, a3, a4, a5⟩ := h
      have hi8 : i < 8 := by omega
      obtain ⟨b1, b2, b3⟩ := a4 i hi8
      rw [if_neg (by omega)] at b1 b2 b3
      have hl : lrs J t x (i + 1) = lstep J t x i (lrs J t x i) := itr_0 _ _ _
      have e33 : p.1 48 i = frs (jso J i) (jpo J i) := (f 48 i rfl).trans (hfs i hi)
      have e34 : p.1 49 i = ltr (jso J i) (jpo J i) := (f 49 i rfl).trans (hla i hi)
      have hby : (bif m_cmp .ge (p.1 46 i) 6 then p.1 49 i else p.1 48 i) = pby (jso J i) (jpo J i) (smn x i) := by
        rw [e33, e34, b1, hmn i hi]
        rfl
      have hB : B_pullAll_a_33 t v3 i p = (uset (bif pon J t x i then uset (uset p.1 46 i (p.1 46 i + 1)) 47 i (p.1 47 i + pul J t x i) else p.1) (22 + t) i (pul J t x i), lstep J t x i p.2) := by
        unfold B_pullAll_a_33 lstep pul
        dsimp only
        rw [hv i hi8, hby, hse i hi8]
        cases pon J t x i
        · cases m_cmp .ne (Int32.ofNat i - Int32.ofNat i / 2 * 2) 0 <;> rfl
        · cases m_cmp .ne (Int32.ofNat i - Int32.ofNat i / 2 * 2) 0 <;> rfl
      have hfr := f.tr (fr_B_pullAll_a_33 t v3 i p ht)
      rw [hB] at hfr ⊢
      have hmi : (bif pon J t x i then p.1 46 i + 1 else p.1 46 i) = mn' J t x i := by unfold mn'; rw [b1, hmn i hi]
      have hsi : (bif pon J t x i then p.1 47 i + pul J t x i else p.1 47 i) = sm' J t x i := by unfold sm'; rw [b2, hsm i hi]
      refine ⟨hfr, ?_, ?_, ?_, fun k hk => ⟨?_, ?_, ?_⟩, fun b j h1 h2 h3 => ?_⟩
      · funext j
        rw [← a1]
        show uset _ (22 + t) i _ 18 j = _
        rw [uset_na (by omega)]
        cases pon J t x i <;> rfl
      · funext j
        rw [← a2]
        show uset _ (22 + t) i _ 19 j = _
        rw [uset_na (by omega)]
        cases pon J t x i <;> rfl
      · rw [hl, ← a3]
      · show uset _ (22 + t) i _ 46 k = _
        rw [uset_na (by omega)]
        by_cases q : k = i
        · subst q
          rw [if_pos (by omega), ← hmi]
          cases pon J t x k
          · rfl
          · show uset (uset p.1 46 k _) 47 k _ 46 k = _
            rw [uset_na (by decide), uset_eq]
            rfl
        · have e : (bif pon J t x i then uset (uset p.1 46 i (p.1 46 i + 1)) 47 i (p.1 47 i + pul J t x i) else p.1) 46 k = p.1 46 k := by
            cases pon J t x i
            · rfl
            · show uset (uset p.1 46 i _) 47 i _ 46 k = _
              rw [uset_na (by decide), uset_nj q]
          rw [e, (a4 k hk).1]
          by_cases e2 : k < i
          · rw [if_pos e2, if_pos (by omega)]
          · rw [if_neg e2, if_neg (by omega)]
      · show uset _ (22 + t) i _ 47 k = _
        rw [uset_na (by omega)]
        by_cases q : k = i
        · subst q
          rw [if_pos (by omega), ← hsi]
          cases pon J t x k
          · rfl
          · show uset (uset p.1 46 k _) 47 k _ 47 k = _
            rw [uset_eq]
            rfl
        · have e : (bif pon J t x i then uset (uset p.1 46 i (p.1 46 i + 1)) 47 i (p.1 47 i + pul J t x i) else p.1) 47 k = p.1 47 k := by
            cases pon J t x i
            · rfl
            · show uset (uset p.1 46 i _) 47 i _ 47 k = _
              rw [uset_nj q, uset_na (by decide)]
          rw [e, (a4 k hk).2.1]
          by_cases e2 : k < i
          · rw [if_pos e2, if_pos (by omega)]
          · rw [if_neg e2, if_neg (by omega)]
      · show uset _ (22 + t) i _ (22 + t) k = _
        by_cases q : k = i
        · subst q
          rw [uset_eq, if_pos (by omega)]
        · rw [uset_nj q]
          have e : (bif pon J t x i then uset (uset p.1 46 i (p.1 46 i + 1)) 47 i (p.1 47 i + pul J t x i) else p.1) (22 + t) k = p.1 (22 + t) k := by
            cases pon J t x i
            · rfl
            · show uset (uset p.1 46 i _) 47 i _ (22 + t) k = _
              rw [uset_na (by omega), uset_na (by omega)]
          rw [e, (a4 k hk).2.2]
          by_cases e2 : k < i
          · rw [if_pos e2, if_pos (by omega)]
          · rw [if_neg e2, if_neg (by omega)]
      · show uset _ (22 + t) i _ b j = _
        rw [uset_na h3, ← a5 b j h1 h2 h3]
        cases pon J t x i
        · rfl
        · show uset (uset p.1 46 i _) 47 i _ b j = _
          rw [uset_na (by omega), uset_na (by omega)]
  obtain ⟨f, a1, a2, a3, a4, a5⟩ := key _ (Nat.le_refl _)
  rw [hn] at a1 a2 a3 a4 a5
  rw [eF]
  generalize itr (B_pullAll_a_33 t v3) 0 (s 10 0).toNatClampNeg (s, 0, 0) = z at *
  refine ⟨?_, ?_, fun j hj => ⟨?_, ?_⟩, fun k hk => ?_, fun b j h1 h2 h3 => ?_⟩
  · rw [uset_na (by decide), uset_eq, a3, hn]
  · rw [uset_eq, a3, hn]
  · rw [uset_na (by decide), uset_nj hj, a1]
  · rw [uset_nj hj, uset_na (by decide), a2]
  · rw [hn] at hk
    obtain ⟨c1, c2, c3⟩ := a4 k (by omega)
    rw [if_pos hk] at c1 c2 c3
    rw [uset_na (by decide), uset_na (by decide), uset_na (by decide), uset_na (by decide), uset_na (by omega), uset_na (by omega)]
    exact ⟨c1, c2, c3⟩
  · rw [uset_na (by omega), uset_na (by omega)]
    exact a5 b j h1 h2 h3
def PuC_b (s : SG) (J : TI) (t : Nat) (x : TS) (i : Nat) (p : SG × Int32 × Int32) : Prop := Fr W_pullAll_b s p.1 ∧ p.1 61 = s 61 ∧ p.1 62 = s 62 ∧ p.2 = lrs J t x i ∧ (∀ k, k < 8 → (p.1 89 k = if k < i then mn' J t x k else s 89 k) ∧ (p.1 90 k = if k < i then sm' J t x k else s 90 k) ∧ (p.1 (65 + t) k = if k < i then pul J t x k else s (65 + t) k)) ∧ ∀ b j, 65 ≤ b → b ≤ 88 → b ≠ 65 + t → p.1 b j = s b j
theorem puC_b {s : SG} {J : TI} {t : Nat} {x : TS} (ht : t < 24) (hn : jn J = (s 53 0).toNatClampNeg) (hn8 : jn J ≤ 8) (hse : ∀ k, k < 8 → jse J k = Int32.ofNat k) (hra : s 56 t = jra J t) (hb : s 93 t = (jbe J t).1) (hth : s 58 8 = sth x) (hfs : ∀ k, k < jn J → s 91 k = frs (jso J k) (jpo J k)) (hla : ∀ k, k < jn J → s 92 k = ltr (jso J k) (jpo J k)) (hmn : ∀ k, k < jn J → s 89 k = smn x k) (hsm : ∀ k, k < jn J → s 90 k = ssm x k) : F_pullAll_b s t 61 t = (lrs J t x (jn J)).1 ∧ F_pullAll_b s t 62 t = (lrs J t x (jn J)).2 ∧ (∀ j, j ≠ t → F_pullAll_b s t 61 j = s 61 j ∧ F_pullAll_b s t 62 j = s 62 j) ∧ (∀ k, k < jn J → F_pullAll_b s t 89 k = mn' J t x k ∧ F_pullAll_b s t 90 k = sm' J t x k ∧ F_pullAll_b s t (65 + t) k = pul J t x k) ∧ ∀ b j, 65 ≤ b → b ≤ 88 → b ≠ 65 + t → F_pullAll_b s t b j = s b j := by
  have hv3 : ∃ v3, v3 = (bif m_cmp .eq (bif m_cmp .ne (s 58 8) (-1) then (0 : Int32) else (bif m_cmp .le (s 56 t) 0 then (0 : Int32) else (1 : Int32))) 0 then (255 : Int32) else s 93 t) ∧ ∀ k, k < 8 → m_cmp .ne ((v3 >>> ((Int32.ofNat k) &&& 31)) &&& 1) 0 = !(pon J t x k) := by
    refine ⟨_, rfl, fun k hk => ?_⟩
    unfold pon
    rw [hth, hra, hse k hk, hb]
    cases m_cmp .ne (sth x) (-1) with
    | true => exact bit255 k hk
    | false =>
      cases m_cmp .le (jra J t) 0 with
      | true => exact bit255 k hk
      | false =>
        show m_cmp .ne (((jbe J t).1 >>> ((Int32.ofNat k) &&& 31)) &&& 1) 0 = _
        cases m_cmp .ne (((jbe J t).1 >>> ((Int32.ofNat k) &&& 31)) &&& 1) 0 <;> rfl
  obtain ⟨v3, ev, hv⟩ := hv3
  have eF : F_pullAll_b s t = uset (uset (itr (B_pullAll_b_33 t v3) 0 (s 53 0).toNatClampNeg (s, 0, 0)).1 61 t (itr (B_pullAll_b_33 t v3) 0 (s 53 0).toNatClampNeg (s, 0, 0)).2.1) 62 t (itr (B_pullAll_b_33 t v3) 0 (s 53 0).toNatClampNeg (s, 0, 0)).2.2 := by
    rw [ev]
    rfl
  have key : ∀ i, i ≤ jn J → PuC_b s J t x i (itr (B_pullAll_b_33 t v3) 0 i (s, 0, 0)) := by
    refine itr_ind (PuC_b s J t x) _ ?_ ?_
    · refine ⟨Fr.rf _ _, rfl, rfl, rfl, fun k _ => ⟨?_, ?_, ?_⟩, fun b j _ _ _ => rfl⟩ <;> rw [if_neg (by omega)]
    · intro i p hi h
      obtain ⟨f, a1, a2, a3, a4, a5⟩ := h
      have hi8 : i < 8 := by omega
      obtain ⟨b1, b2, b3⟩ := a4 i hi8
      rw [if_neg (by omega)] at b1 b2 b3
      have hl : lrs J t x (i + 1) = lstep J t x i (lrs J t x i) := itr_0 _ _ _
      have e33 : p.1 91 i = frs (jso J i) (jpo J i) := (f 91 i rfl).trans (hfs i hi)
      have e34 : p.1 92 i = ltr (jso J i) (jpo J i) := (f 92 i rfl).trans (hla i hi)
      have hby : (bif m_cmp .ge (p.1 89 i) 6 then p.1 92 i else p.1 91 i) = pby (jso J i) (jpo J i) (smn x i) := by
        rw [e33, e34, b1, hmn i hi]
        rfl
      have hB : B_pullAll_b_33 t v3 i p = (uset (bif pon J t x i then uset (uset p.1 89 i (p.1 89 i + 1)) 90 i (p.1 90 i + pul J t x i) else p.1) (65 + t) i (pul J t x i), lstep J t x i p.2) := by
        unfold B_pullAll_b_33 lstep pul
        dsimp only
        rw [hv i hi8, hby, hse i hi8]
        cases pon J t x i
        · cases m_cmp .ne (Int32.ofNat i - Int32.ofNat i / 2 * 2) 0 <;> rfl
        · cases m_cmp .ne (Int32.ofNat i - Int32.ofNat i / 2 * 2) 0 <;> rfl
      have hfr := f.tr (fr_B_pullAll_b_33 t v3 i p ht)
      rw [hB] at hfr ⊢
      have hmi : (bif pon J t x i then p.1 89 i + 1 else p.1 89 i) = mn' J t x i := by unfold mn'; rw [b1, hmn i hi]
      have hsi : (bif pon J t x i then p.1 90 i + pul J t x i else p.1 90 i) = sm' J t x i := by unfold sm'; rw [b2, hsm i hi]
      refine ⟨hfr, ?_, ?_, ?_, fun k hk => ⟨?_, ?_, ?_⟩, fun b j h1 h2 h3 => ?_⟩
      · funext j
        rw [← a1]
        show uset _ (65 + t) i _ 61 j = _
        rw [uset_na (by omega)]
        cases pon J t x i <;> rfl
      · funext j
        rw [← a2]
        show uset _ (65 + t) i _ 62 j = _
        rw [uset_na (by omega)]
        cases pon J t x i <;> rfl
      · rw [hl, ← a3]
      · show uset _ (65 + t) i _ 89 k = _
        rw [uset_na (by omega)]
        by_cases q : k = i
        · subst q
          rw [if_pos (by omega), ← hmi]
          cases pon J t x k
          · rfl
          · show uset (uset p.1 89 k _) 90 k _ 89 k = _
            rw [uset_na (by decide), uset_eq]
            rfl
        · have e : (bif pon J t x i then uset (uset p.1 89 i (p.1 89 i + 1)) 90 i (p.1 90 i + pul J t x i) else p.1) 89 k = p.1 89 k := by
            cases pon J t x i
            · rfl
            · show uset (uset p.1 89 i _) 90 i _ 89 k = _
              rw [uset_na (by decide), uset_nj q]
          rw [e, (a4 k hk).1]
          by_cases e2 : k < i
          · rw [if_pos e2, if_pos (by omega)]
          · rw [if_neg e2, if_neg (by omega)]
      · show uset _ (65 + t) i _ 90 k = _
        rw [uset_na (by omega)]
        by_cases q : k = i
        · subst q
          rw [if_pos (by omega), ← hsi]
          cases pon J t x k
          · rfl
          · show uset (uset p.1 89 k _) 90 k _ 90 k = _
            rw [uset_eq]
            rfl
        · have e : (bif pon J t x i then uset (uset p.1 89 i (p.1 89 i + 1)) 90 i (p.1 90 i + pul J t x i) else p.1) 90 k = p.1 90 k := by
            cases pon J t x i
            · rfl
            · show uset (uset p.1 89 i _) 90 i _ 90 k = _
              rw [uset_nj q, uset_na (by decide)]
          rw [e, (a4 k hk).2.1]
          by_cases e2 : k < i
          · rw [if_pos e2, if_pos (by omega)]
          · rw [if_neg e2, if_neg (by omega)]
      · show uset _ (65 + t) i _ (65 + t) k = _
        by_cases q : k = i
        · subst q
          rw [uset_eq, if_pos (by omega)]
        · rw [uset_nj q]
          have e : (bif pon J t x i then uset (uset p.1 89 i (p.1 89 i + 1)) 90 i (p.1 90 i + pul J t x i) else p.1) (65 + t) k = p.1 (65 + t) k := by
            cases pon J t x i
            · rfl
            · show uset (uset p.1 89 i _) 90 i _ (65 + t) k = _
              rw [uset_na (by omega), uset_na (by omega)]
          rw [e, (a4 k hk).2.2]
          by_cases e2 : k < i
          · rw [if_pos e2, if_pos (by omega)]
          · rw [if_neg e2, if_neg (by omega)]
      · show uset _ (65 + t) i _ b j = _
        rw [uset_na h3, ← a5 b j h1 h2 h3]
        cases pon J t x i
        · rfl
        · show uset (uset p.1 89 i _) 90 i _ b j = _
          rw [uset_na (by omega), uset_na (by omega)]
  obtain ⟨f, a1, a2, a3, a4, a5⟩ := key _ (Nat.le_refl _)
  rw [hn] at a1 a2 a3 a4 a5
  rw [eF]
  generalize itr (B_pullAll_b_33 t v3) 0 (s 53 0).toNatClampNeg (s, 0, 0) = z at *
  refine ⟨?_, ?_, fun j hj => ⟨?_, ?_⟩, fun k hk => ?_, fun b j h1 h2 h3 => ?_⟩
  · rw [uset_na (by decide), uset_eq, a3, hn]
  · rw [uset_eq, a3, hn]
  · rw [uset_na (by decide), uset_nj hj, a1]
  · rw [uset_nj hj, uset_na (by decide), a2]
  · rw [hn] at hk
    obtain ⟨c1, c2, c3⟩ := a4 k (by omega)
    rw [if_pos hk] at c1 c2 c3
    rw [uset_na (by decide), uset_na (by decide), uset_na (by decide), uset_na (by decide), uset_na (by omega), uset_na (by omega)]
    exact ⟨c1, c2, c3⟩
  · rw [uset_na (by omega), uset_na (by omega)]
    exact a5 b j h1 h2 h3
def PuC_c (s : SG) (J : TI) (t : Nat) (x : TS) (i : Nat) (p : SG × Int32 × Int32) : Prop := Fr W_pullAll_c s p.1 ∧ p.1 61 = s 61 ∧ p.1 62 = s 62 ∧ p.2 = lrs J t x i ∧ (∀ k, k < 8 → (p.1 89 k = if k < i then mn' J t x k else s 89 k) ∧ (p.1 90 k = if k < i then sm' J t x k else s 90 k) ∧ (p.1 (65 + t) k = if k < i then pul J t x k else s (65 + t) k)) ∧ ∀ b j, 65 ≤ b → b ≤ 88 → b ≠ 65 + t → p.1 b j = s b j
theorem puC_c {s : SG} {J : TI} {t : Nat} {x : TS} (ht : t < 24) (hn : jn J = (s 10 0).toNatClampNeg) (hn8 : jn J ≤ 8) (hse : ∀ k, k < 8 → jse J k = Int32.ofNat k) (hra : s 13 t = jra J t) (hb : s 93 t = (jbe J t).1) (hth : s 58 8 = sth x) (hfs : ∀ k, k < jn J → s 91 k = frs (jso J k) (jpo J k)) (hla : ∀ k, k < jn J → s 92 k = ltr (jso J k) (jpo J k)) (hmn : ∀ k, k < jn J → s 89 k = smn x k) (hsm : ∀ k, k < jn J → s 90 k = ssm x k) : F_pullAll_c s t 61 t = (lrs J t x (jn J)).1 ∧ F_pullAll_c s t 62 t = (lrs J t x (jn J)).2 ∧ (∀ j, j ≠ t → F_pullAll_c s t 61 j = s 61 j ∧ F_pullAll_c s t 62 j = s 62 j) ∧ (∀ k, k < jn J → F_pullAll_c s t 89 k = mn' J t x k ∧ F_pullAll_c s t 90 k = sm' J t x k ∧ F_pullAll_c s t (65 + t) k = pul J t x k) ∧ ∀ b j, 65 ≤ b → b ≤ 88 → b ≠ 65 + t → F_pullAll_c s t b j = s b j := by
  have hv3 : ∃ v3, v3 = (bif m_cmp .eq (bif m_cmp .ne (s 58 8) (-1) then (0 : Int32) else (bif m_cmp .le (s 13 t) 0 then (0 : Int32) else (1 : Int32))) 0 then (255 : Int32) else s 93 t) ∧ ∀ k, k < 8 → m_cmp .ne ((v3 >>> ((Int32.ofNat k) &&& 31)) &&& 1) 0 = !(pon J t x k) := by
    refine ⟨_, rfl, fun k hk => ?_⟩
    unfold pon
    rw [hth, hra, hse k hk, hb]
    cases m_cmp .ne (sth x) (-1) with
    | true => exact bit255 k hk
    | false =>
      cases m_cmp .le (jra J t) 0 with
      | true => exact bit255 k hk
      | false =>
        show m_cmp .ne (((jbe J t).1 >>> ((Int32.ofNat k) &&& 31)) &&& 1) 0 = _
        cases m_cmp .ne (((jbe J t).1 >>> ((Int32.ofNat k) &&& 31)) &&& 1) 0 <;> rfl
  obtain ⟨v3, ev, hv⟩ := hv3
  have eF : F_pullAll_c s t = uset (uset (itr (B_pullAll_c_33 t v3) 0 (s 10 0).toNatClampNeg (s, 0, 0)).1 61 t (itr (B_pullAll_c_33 t v3) 0 (s 10 0).toNatClampNeg (s, 0, 0)).2.1) 62 t (itr (B_pullAll_c_33 t v3) 0 (s 10 0).toNatClampNeg (s, 0, 0)).2.2 := by
    rw [ev]
    rfl
  have key : ∀ i, i ≤ jn J → PuC_c s J t x i (itr (B_pullAll_c_33 t v3) 0 i (s, 0, 0)) := by
    refine itr_ind (PuC_c s J t x) _ ?_ ?_
    · refine ⟨Fr.rf _ _, rfl, rfl, rfl, fun k _ => ⟨?_, ?_, ?_⟩, fun b j _ _ _ => rfl⟩ <;> rw [if_neg (by omega)]
    · intro i p hi h
      obtain ⟨f, a1, a2, a3, a4, a5⟩ := h
      have hi8 : i < 8 := by omega
      obtain ⟨b1, b2, b3⟩ := a4 i hi8
      rw [if_neg (by omega)] at b1 b2 b3
      have hl : lrs J t x (i + 1) = lstep J t x i (lrs J t x i) := itr_0 _ _ _
      have e33 : p.1 91 i = frs (jso J i) (jpo J i) := (f 91 i rfl).trans (hfs i hi)
      have e34 : p.1 92 i = ltr (jso J i) (jpo J i) := (f 92 i rfl).trans (hla i hi)
      have hby : (bif m_cmp .ge (p.1 89 i) 6 then p.1 92 i else p.1 91 i) = pby (jso J i) (jpo J i) (smn x i) := by
        rw [e33, e34, b1, hmn i hi]
        rfl
      have hB : B_pullAll_c_33 t v3 i p = (uset (bif pon J t x i then uset (uset p.1 89 i (p.1 89 i + 1)) 90 i (p.1 90 i + pul J t x i) else p.1) (65 + t) i (pul J t x i), lstep J t x i p.2) := by
        unfold B_pullAll_c_33 lstep pul
        dsimp only
        rw [hv i hi8, hby, hse i hi8]
        cases pon J t x i
        · cases m_cmp .ne (Int32.ofNat i - Int32.ofNat i / 2 * 2) 0 <;> rfl
        · cases m_cmp .ne (Int32.ofNat i - Int32.ofNat i / 2 * 2) 0 <;> rfl
      have hfr := f.tr (fr_B_pullAll_c_33 t v3 i p ht)
      rw [hB] at hfr ⊢
      have hmi : (bif pon J t x i then p.1 89 i + 1 else p.1 89 i) = mn' J t x i := by unfold mn'; rw [b1, hmn i hi]
      have hsi : (bif pon J t x i then p.1 90 i + pul J t x i else p.1 90 i) = sm' J t x i := by unfold sm'; rw [b2, hsm i hi]
      refine ⟨hfr, ?_, ?_, ?_, fun k hk => ⟨?_, ?_, ?_⟩, fun b j h1 h2 h3 => ?_⟩
      · funext j
        rw [← a1]
        show uset _ (65 + t) i _ 61 j = _
        rw [uset_na (by omega)]
        cases pon J t x i <;> rfl
      · funext j
        rw [← a2]
        show uset _ (65 + t) i _ 62 j = _
        rw [uset_na (by omega)]
        cases pon J t x i <;> rfl
      · rw [hl, ← a3]
      · show uset _ (65 + t) i _ 89 k = _
        rw [uset_na (by omega)]
        by_cases q : k = i
        · subst q
          rw [if_pos (by omega), ← hmi]
          cases pon J t x k
          · rfl
          · show uset (uset p.1 89 k _) 90 k _ 89 k = _
            rw [uset_na (by decide), uset_eq]
            rfl
        · have e : (bif pon J t x i then uset (uset p.1 89 i (p.1 89 i + 1)) 90 i (p.1 90 i + pul J t x i) else p.1) 89 k = p.1 89 k := by
            cases pon J t x i
            · rfl
            · show uset (uset p.1 89 i _) 90 i _ 89 k = _
              rw [uset_na (by decide), uset_nj q]
          rw [e, (a4 k hk).1]
          by_cases e2 : k < i
          · rw [if_pos e2, if_pos (by omega)]
          · rw [if_neg e2, if_neg (by omega)]
      · show uset _ (65 + t) i _ 90 k = _
        rw [uset_na (by omega)]
        by_cases q : k = i
        · subst q
          rw [if_pos (by omega), ← hsi]
          cases pon J t x k
          · rfl
          · show uset (uset p.1 89 k _) 90 k _ 90 k = _
            rw [uset_eq]
            rfl
        · have e : (bif pon J t x i then uset (uset p.1 89 i (p.1 89 i + 1)) 90 i (p.1 90 i + pul J t x i) else p.1) 90 k = p.1 90 k := by
            cases pon J t x i
            · rfl
            · show uset (uset p.1 89 i _) 90 i _ 90 k = _
              rw [uset_nj q, uset_na (by decide)]
          rw [e, (a4 k hk).2.1]
          by_cases e2 : k < i
          · rw [if_pos e2, if_pos (by omega)]
          · rw [if_neg e2, if_neg (by omega)]
      · show uset _ (65 + t) i _ (65 + t) k = _
        by_cases q : k = i
        · subst q
          rw [uset_eq, if_pos (by omega)]
        · rw [uset_nj q]
          have e : (bif pon J t x i then uset (uset p.1 89 i (p.1 89 i + 1)) 90 i (p.1 90 i + pul J t x i) else p.1) (65 + t) k = p.1 (65 + t) k := by
            cases pon J t x i
            · rfl
            · show uset (uset p.1 89 i _) 90 i _ (65 + t) k = _
              rw [uset_na (by omega), uset_na (by omega)]
          rw [e, (a4 k hk).2.2]
          by_cases e2 : k < i
          · rw [if_pos e2, if_pos (by omega)]
          · rw [if_neg e2, if_neg (by omega)]
      · show uset _ (65 + t) i _ b j = _
        rw [uset_na h3, ← a5 b j h1 h2 h3]
        cases pon J t x i
        · rfl
        · show uset (uset p.1 89 i _) 90 i _ b j = _
          rw [uset_na (by omega), uset_na (by omega)]
  obtain ⟨f, a1, a2, a3, a4, a5⟩ := key _ (Nat.le_refl _)
  rw [hn] at a1 a2 a3 a4 a5
  rw [eF]
  generalize itr (B_pullAll_c_33 t v3) 0 (s 10 0).toNatClampNeg (s, 0, 0) = z at *
  refine ⟨?_, ?_, fun j hj => ⟨?_, ?_⟩, fun k hk => ?_, fun b j h1 h2 h3 => ?_⟩
  · rw [uset_na (by decide), uset_eq, a3, hn]
  · rw [uset_eq, a3, hn]
  · rw [uset_na (by decide), uset_nj hj, a1]
  · rw [uset_nj hj, uset_na (by decide), a2]
  · rw [hn] at hk
    obtain ⟨c1, c2, c3⟩ := a4 k (by omega)
    rw [if_pos hk] at c1 c2 c3
    rw [uset_na (by decide), uset_na (by decide), uset_na (by decide), uset_na (by decide), uset_na (by omega), uset_na (by omega)]
    exact ⟨c1, c2, c3⟩
  · rw [uset_na (by omega), uset_na (by omega)]
    exact a5 b j h1 h2 h3
