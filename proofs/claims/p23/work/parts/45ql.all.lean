section
/-! the class: who pulls (printed by wip/u/mk_row2.py) -/
def PuC_a (s : SG) (J : TI) (t : Nat) (x : TS) (i : Nat) (p : SG × Int32 × Int32) : Prop := Fr W_pullAll_a s p.1 ∧ p.1 18 = s 18 ∧ p.1 19 = s 19 ∧ p.2 = lrs J t x i ∧ (∀ k, k < 8 → (p.1 46 k = if k < i then mn' J t x k else s 46 k) ∧ (p.1 47 k = if k < i then sm' J t x k else s 47 k) ∧ (p.1 (22 + t) k = if k < i then pul J t x k else s (22 + t) k)) ∧ ∀ b j, 22 ≤ b → b ≤ 45 → b ≠ 22 + t → p.1 b j = s b j
theorem puC_a {s : SG} {J : TI} {t : Nat} {x : TS} (ht : t < 24) (hn : jn J = (s 10 0).toNatClampNeg) (hn8 : jn J ≤ 8) (hse : ∀ k, k < 8 → jse J k = Int32.ofNat k) (hra : s 13 t = jra J t) (hb : s 50 t = (jbe J t).1) (hth : s 15 8 = sth x) (hfs : ∀ k, k < jn J → s 48 k = frs (jso J k) (jpo J k)) (hla : ∀ k, k < jn J → s 49 k = ltr (jso J k) (jpo J k)) (hmn : ∀ k, k < jn J → s 46 k = smn x k) (hsm : ∀ k, k < jn J → s 47 k = ssm x k) : F_pullAll_a s t 18 t = (lrs J t x (jn J)).1 ∧ F_pullAll_a s t 19 t = (lrs J t x (jn J)).2 ∧ (∀ j, j ≠ t → F_pullAll_a s t 18 j = s 18 j ∧ F_pullAll_a s t 19 j = s 19 j) ∧ (∀ k, k < jn J → F_pullAll_a s t 46 k = mn' J t x k ∧ F_pullAll_a s t 47 k = sm' J t x k ∧ F_pullAll_a s t (22 + t) k = pul J t x k) ∧ ∀ b j, 22 ≤ b → b ≤ 45 → b ≠ 22 + t → F_pullAll_a s t b j = s b j := by
  have hv3 : ∃ v3, v3 = (bif m_cmp .eq (bif m_cmp .ne (s 15 8) (-1) then (0 : Int32) else (bif m_cmp .le (s 13 t) 0 then (0 : Int32) else (1 : Int32))) 0 then (255 : Int32) else s 50 t) ∧ ∀ k, k < 8 → m_cmp .ne ((v3 >>> ((Int32.ofNat k) &&& 31)) &&& 1) 0 = !(pon J t x k) := by
    refine ⟨_, rfl, fun k hk => ?_⟩
    unfold pon
    rw [hth, hra, hse k hk, hb]
    cases m_cmp .ne (sth x) (-1) with
    | true => exact bit255 k hk
    | false =>
      cases m_cmp .le (jra J t) 0 with
      | true => exact bit255 k hk
      | false =>
        show m_cmp .ne (((jbe J t).1 >>> ((Int32.ofNat k) &&& 31)) &&& 1) 0 = _
        cases m_cmp .ne (((jbe J t).1 >>> ((Int32.ofNat k) &&& 31)) &&& 1) 0 <;> rfl
  obtain ⟨v3, ev, hv⟩ := hv3
  have eF : F_pullAll_a s t = uset (uset (itr (B_pullAll_a_33 t v3) 0 (s 10 0).toNatClampNeg (s, 0, 0)).1 18 t (itr (B_pullAll_a_33 t v3) 0 (s 10 0).toNatClampNeg (s, 0, 0)).2.1) 19 t (itr (B_pullAll_a_33 t v3) 0 (s 10 0).toNatClampNeg (s, 0, 0)).2.2 := by
    rw [ev]
    rfl
  have key : ∀ i, i ≤ jn J → PuC_a s J t x i (itr (B_pullAll_a_33 t v3) 0 i (s, 0, 0)) := by
    refine itr_ind (PuC_a s J t x) _ ?_ ?_
    · refine ⟨Fr.rf _ _, rfl, rfl, rfl, fun k _ => ⟨?_, ?_, ?_⟩, fun b j _ _ _ => rfl⟩ <;> rw [if_neg (by omega)]
    · intro i p hi h
      obtain ⟨f, a1, a2, a3, a4, a5⟩ := h
      have hi8 : i < 8 := by omega
      obtain ⟨b1, b2, b3⟩ := a4 i hi8
      rw [if_neg (by omega)] at b1 b2 b3
      have hl : lrs J t x (i + 1) = lstep J t x i (lrs J t x i) := itr_0 _ _ _
      have e33 : p.1 48 i = frs (jso J i) (jpo J i) := (f 48 i rfl).trans (hfs i hi)
      have e34 : p.1 49 i = ltr (jso J i) (jpo J i) := (f 49 i rfl).trans (hla i hi)
      have hby : (bif m_cmp .ge (p.1 46 i) 6 then p.1 49 i else p.1 48 i) = pby (jso J i) (jpo J i) (smn x i) := by
        rw [e33, e34, b1, hmn i hi]
        rfl
      have hB : B_pullAll_a_33 t v3 i p = (uset (bif pon J t x i then uset (uset p.1 46 i (p.1 46 i + 1)) 47 i (p.1 47 i + pul J t x i) else p.1) (22 + t) i (pul J t x i), lstep J t x i p.2) := by
        unfold B_pullAll_a_33 lstep pul
        dsimp only
        rw [hv i hi8, hby, hse i hi8]
        cases pon J t x i
        · cases m_cmp .ne (Int32.ofNat i - Int32.ofNat i / 2 * 2) 0 <;> rfl
        · cases m_cmp .ne (Int32.ofNat i - Int32.ofNat i / 2 * 2) 0 <;> rfl
      have hfr := f.tr (fr_B_pullAll_a_33 t v3 i p ht)
      rw [hB] at hfr ⊢
      have hmi : (bif pon J t x i then p.1 46 i + 1 else p.1 46 i) = mn' J t x i := by unfold mn'; rw [b1, hmn i hi]
      have hsi : (bif pon J t x i then p.1 47 i + pul J t x i else p.1 47 i) = sm' J t x i := by unfold sm'; rw [b2, hsm i hi]
      refine ⟨hfr, ?_, ?_, ?_, fun k hk => ⟨?_, ?_, ?_⟩, fun b j h1 h2 h3 => ?_⟩
      · funext j
        rw [← a1]
        show uset _ (22 + t) i _ 18 j = _
        rw [uset_na (by omega)]
        cases pon J t x i <;> rfl
      · funext j
        rw [← a2]
        show uset _ (22 + t) i _ 19 j = _
        rw [uset_na (by omega)]
        cases pon J t x i <;> rfl
      · rw [hl, ← a3]
      · show uset _ (22 + t) i _ 46 k = _
        rw [uset_na (by omega)]
        by_cases q : k = i
        · subst q
          rw [if_pos (by omega), ← hmi]
          cases pon J t x k
          · rfl
          · show uset (uset p.1 46 k _) 47 k _ 46 k = _
            rw [uset_na (by decide), uset_eq]
            rfl
        · have e : (bif pon J t x i then uset (uset p.1 46 i (p.1 46 i + 1)) 47 i (p.1 47 i + pul J t x i) else p.1) 46 k = p.1 46 k := by
            cases pon J t x i
            · rfl
            · show uset (uset p.1 46 i _) 47 i _ 46 k = _
              rw [uset_na (by decide), uset_nj q]
          rw [e, (a4 k hk).1]
          by_cases e2 : k < i
          · rw [if_pos e2, if_pos (by omega)]
          · rw [if_neg e2, if_neg (by omega)]
      · show uset _ (22 + t) i _ 47 k = _
        rw [uset_na (by omega)]
        by_cases q : k = i
        · subst q
          rw [if_pos (by omega), ← hsi]
          cases pon J t x k
          · rfl
          · show uset (uset p.1 46 k _) 47 k _ 47 k = _
            rw [uset_eq]
            rfl
        · have e : (bif pon J t x i then uset (uset p.1 46 i (p.1 46 i + 1)) 47 i (p.1 47 i + pul J t x i) else p.1) 47 k = p.1 47 k := by
            cases pon J t x i
            · rfl
            · show uset (uset p.1 46 i _) 47 i _ 47 k = _
              rw [uset_nj q, uset_na (by decide)]
          rw [e, (a4 k hk).2.1]
          by_cases e2 : k < i
          · rw [if_pos e2, if_pos (by omega)]
          · rw [if_neg e2, if_neg (by omega)]
      · show uset _ (22 + t) i _ (22 + t) k = _
        by_cases q : k = i
        · subst q
          rw [uset_eq, if_pos (by omega)]
        · rw [uset_nj q]
          have e : (bif pon J t x i then uset (uset p.1 46 i (p.1 46 i + 1)) 47 i (p.1 47 i + pul J t x i) else p.1) (22 + t) k = p.1 (22 + t) k := by
            cases pon J t x i
            · rfl
            · show uset (uset p.1 46 i _) 47 i _ (22 + t) k = _
              rw [uset_na (by omega), uset_na (by omega)]
          rw [e, (a4 k hk).2.2]
          by_cases e2 : k < i
          · rw [if_pos e2, if_pos (by omega)]
          · rw [if_neg e2, if_neg (by omega)]
      · show uset _ (22 + t) i _ b j = _
        rw [uset_na h3, ← a5 b j h1 h2 h3]
        cases pon J t x i
        · rfl
        · show uset (uset p.1 46 i _) 47 i _ b j = _
          rw [uset_na (by omega), uset_na (by omega)]
  obtain ⟨f, a1, a2, a3, a4, a5⟩ := key _ (Nat.le_refl _)
  rw [hn] at a1 a2 a3 a4 a5
  rw [eF]
  generalize itr (B_pullAll_a_33 t v3) 0 (s 10 0).toNatClampNeg (s, 0, 0) = z at *
  refine ⟨?_, ?_, fun j hj => ⟨?_, ?_⟩, fun k hk => ?_, fun b j h1 h2 h3 => ?_⟩
  · rw [uset_na (by decide), uset_eq, a3, hn]
  · rw [uset_eq, a3, hn]
  · rw [uset_na (by decide), uset_nj hj, a1]
  · rw [uset_nj hj, uset_na (by decide), a2]
  · rw [hn] at hk
    obtain ⟨c1, c2, c3⟩ := a4 k (by omega)
    rw [if_pos hk] at c1 c2 c3
    rw [uset_na (by decide), uset_na (by decide), uset_na (by decide), uset_na (by decide), uset_na (by omega), uset_na (by omega)]
    exact ⟨c1, c2, c3⟩
  · rw [uset_na (by omega), uset_na (by omega)]
    exact a5 b j h1 h2 h3
def PuC_b (s : SG) (J : TI) (t : Nat) (x : TS) (i : Nat) (p : SG × Int32 × Int32) : Prop := Fr W_pullAll_b s p.1 ∧ p.1 61 = s 61 ∧ p.1 62 = s 62 ∧ p.2 = lrs J t x i ∧ (∀ k, k < 8 → (p.1 89 k = if k < i then mn' J t x k else s 89 k) ∧ (p.1 90 k = if k < i then sm' J t x k else s 90 k) ∧ (p.1 (65 + t) k = if k < i then pul J t x k else s (65 + t) k)) ∧ ∀ b j, 65 ≤ b → b ≤ 88 → b ≠ 65 + t → p.1 b j = s b j
theorem puC_b {s : SG} {J : TI} {t : Nat} {x : TS} (ht : t < 24) (hn : jn J = (s 53 0).toNatClampNeg) (hn8 : jn J ≤ 8) (hse : ∀ k, k < 8 → jse J k = Int32.ofNat k) (hra : s 56 t = jra J t) (hb : s 93 t = (jbe J t).1) (hth : s 58 8 = sth x) (hfs : ∀ k, k < jn J → s 91 k = frs (jso J k) (jpo J k)) (hla : ∀ k, k < jn J → s 92 k = ltr (jso J k) (jpo J k)) (hmn : ∀ k, k < jn J → s 89 k = smn x k) (hsm : ∀ k, k < jn J → s 90 k = ssm x k) : F_pullAll_b s t 61 t = (lrs J t x (jn J)).1 ∧ F_pullAll_b s t 62 t = (lrs J t x (jn J)).2 ∧ (∀ j, j ≠ t → F_pullAll_b s t 61 j = s 61 j ∧ F_pullAll_b s t 62 j = s 62 j) ∧ (∀ k, k < jn J → F_pullAll_b s t 89 k = mn' J t x k ∧ F_pullAll_b s t 90 k = sm' J t x k ∧ F_pullAll_b s t (65 + t) k = pul J t x k) ∧ ∀ b j, 65 ≤ b → b ≤ 88 → b ≠ 65 + t → F_pullAll_b s t b j = s b j := by
  have hv3 : ∃ v3, v3 = (bif m_cmp .eq (bif m_cmp .ne (s 58 8) (-1) then (0 : Int32) else (bif m_cmp .le (s 56 t) 0 then (0 : Int32) else (1 : Int32))) 0 then (255 : Int32) else s 93 t) ∧ ∀ k, k < 8 → m_cmp .ne ((v3 >>> ((Int32.ofNat k) &&& 31)) &&& 1) 0 = !(pon J t x k) := by
    refine ⟨_, rfl, fun k hk => ?_⟩
    unfold pon
    rw [hth, hra, hse k hk, hb]
    cases m_cmp .ne (sth x) (-1) with
    | true => exact bit255 k hk
    | false =>
      cases m_cmp .le (jra J t) 0 with
      | true => exact bit255 k hk
      | false =>
        show m_cmp .ne (((jbe J t).1 >>> ((Int32.ofNat k) &&& 31)) &&& 1) 0 = _
        cases m_cmp .ne (((jbe J t).1 >>> ((Int32.ofNat k) &&& 31)) &&& 1) 0 <;> rfl
  obtain ⟨v3, ev, hv⟩ := hv3
  have eF : F_pullAll_b s t = uset (uset (itr (B_pullAll_b_33 t v3) 0 (s 53 0).toNatClampNeg (s, 0, 0)).1 61 t (itr (B_pullAll_b_33 t v3) 0 (s 53 0).toNatClampNeg (s, 0, 0)).2.1) 62 t (itr (B_pullAll_b_33 t v3) 0 (s 53 0).toNatClampNeg (s, 0, 0)).2.2 := by
    rw [ev]
    rfl
  have key : ∀ i, i ≤ jn J → PuC_b s J t x i (itr (B_pullAll_b_33 t v3) 0 i (s, 0, 0)) := by
    refine itr_ind (PuC_b s J t x) _ ?_ ?_
    · refine ⟨Fr.rf _ _, rfl, rfl, rfl, fun k _ => ⟨?_, ?_, ?_⟩, fun b j _ _ _ => rfl⟩ <;> rw [if_neg (by omega)]
    · intro i p hi h
      obtain ⟨f, a1, a2, a3, a4, a5⟩ := h
      have hi8 : i < 8 := by omega
      obtain ⟨b1, b2, b3⟩ := a4 i hi8
      rw [if_neg (by omega)] at b1 b2 b3
      have hl : lrs J t x (i + 1) = lstep J t x i (lrs J t x i) := itr_0 _ _ _
      have e33 : p.1 91 i = frs (jso J i) (jpo J i) := (f 91 i rfl).trans (hfs i hi)
      have e34 : p.1 92 i = ltr (jso J i) (jpo J i) := (f 92 i rfl).trans (hla i hi)
      have hby : (bif m_cmp .ge (p.1 89 i) 6 then p.1 92 i else p.1 91 i) = pby (jso J i) (jpo J i) (smn x i) := by
        rw [e33, e34, b1, hmn i hi]
        rfl
      have hB : B_pullAll_b_33 t v3 i p = (uset (bif pon J t x i then uset (uset p.1 89 i (p.1 89 i + 1)) 90 i (p.1 90 i + pul J t x i) else p.1) (65 + t) i (pul J t x i), lstep J t x i p.2) := by
        unfold B_pullAll_b_33 lstep pul
        dsimp only
        rw [hv i hi8, hby, hse i hi8]
        cases pon J t x i
        · cases m_cmp .ne (Int32.ofNat i - Int32.ofNat i / 2 * 2) 0 <;> rfl
        · cases m_cmp .ne (Int32.ofNat i - Int32.ofNat i / 2 * 2) 0 <;> rfl
      have hfr := f.tr (fr_B_pullAll_b_33 t v3 i p ht)
      rw [hB] at hfr ⊢
      have hmi : (bif pon J t x i then p.1 89 i + 1 else p.1 89 i) = mn' J t x i := by unfold mn'; rw [b1, hmn i hi]
      have hsi : (bif pon J t x i then p.1 90 i + pul J t x i else p.1 90 i) = sm' J t x i := by unfold sm'; rw [b2, hsm i hi]
      refine ⟨hfr, ?_, ?_, ?_, fun k hk => ⟨?_, ?_, ?_⟩, fun b j h1 h2 h3 => ?_⟩
      · funext j
        rw [← a1]
        show uset _ (65 + t) i _ 61 j = _
        rw [uset_na (by omega)]
        cases pon J t x i <;> rfl
      · funext j
        rw [← a2]
        show uset _ (65 + t) i _ 62 j = _
        rw [uset_na (by omega)]
        cases pon J t x i <;> rfl
      · rw [hl, ← a3]
      · show uset _ (65 + t) i _ 89 k = _
        rw [uset_na (by omega)]
        by_cases q : k = i
        · subst q
          rw [if_pos (by omega), ← hmi]
          cases pon J t x k
          · rfl
          · show uset (uset p.1 89 k _) 90 k _ 89 k = _
            rw [uset_na (by decide), uset_eq]
            rfl
        · have e : (bif pon J t x i then uset (uset p.1 89 i (p.1 89 i + 1)) 90 i (p.1 90 i + pul J t x i) else p.1) 89 k = p.1 89 k := by
            cases pon J t x i
            · rfl
            · show uset (uset p.1 89 i _) 90 i _ 89 k = _
              rw [uset_na (by decide), uset_nj q]
          rw [e, (a4 k hk).1]
          by_cases e2 : k < i
          · rw [if_pos e2, if_pos (by omega)]
          · rw [if_neg e2, if_neg (by omega)]
      · show uset _ (65 + t) i _ 90 k = _
        rw [uset_na (by omega)]
        by_cases q : k = i
        · subst q
          rw [if_pos (by omega), ← hsi]
          cases pon J t x k
          · rfl
          · show uset (uset p.1 89 k _) 90 k _ 90 k = _
            rw [uset_eq]
            rfl
        · have e : (bif pon J t x i then uset (uset p.1 89 i (p.1 89 i + 1)) 90 i (p.1 90 i + pul J t x i) else p.1) 90 k = p.1 90 k := by
            cases pon J t x i
            · rfl
            · show uset (uset p.1 89 i _) 90 i _ 90 k = _
              rw [uset_nj q, uset_na (by decide)]
          rw [e, (a4 k hk).2.1]
          by_cases e2 : k < i
          · rw [if_pos e2, if_pos (by omega)]
          · rw [if_neg e2, if_neg (by omega)]
      · show uset _ (65 + t) i _ (65 + t) k = _
        by_cases q : k = i
        · subst q
          rw [uset_eq, if_pos (by omega)]
        · rw [uset_nj q]
          have e : (bif pon J t x i then uset (uset p.1 89 i (p.1 89 i + 1)) 90 i (p.1 90 i + pul J t x i) else p.1) (65 + t) k = p.1 (65 + t) k := by
            cases pon J t x i
            · rfl
            · show uset (uset p.1 89 i _) 90 i _ (65 + t) k = _
              rw [uset_na (by omega), uset_na (by omega)]
          rw [e, (a4 k hk).2.2]
          by_cases e2 : k < i
          · rw [if_pos e2, if_pos (by omega)]
          · rw [if_neg e2, if_neg (by omega)]
      · show uset _ (65 + t) i _ b j = _
        rw [uset_na h3, ← a5 b j h1 h2 h3]
        cases pon J t x i
        · rfl
        · show uset (uset p.1 89 i _) 90 i _ b j = _
          rw [uset_na (by omega), uset_na (by omega)]
  obtain ⟨f, a1, a2, a3, a4, a5⟩ := key _ (Nat.le_refl _)
  rw [hn] at a1 a2 a3 a4 a5
  rw [eF]
  generalize itr (B_pullAll_b_33 t v3) 0 (s 53 0).toNatClampNeg (s, 0, 0) = z at *
  refine ⟨?_, ?_, fun j hj => ⟨?_, ?_⟩, fun k hk => ?_, fun b j h1 h2 h3 => ?_⟩
  · rw [uset_na (by decide), uset_eq, a3, hn]
  · rw [uset_eq, a3, hn]
  · rw [uset_na (by decide), uset_nj hj, a1]
  · rw [uset_nj hj, uset_na (by decide), a2]
  · rw [hn] at hk
    obtain ⟨c1, c2, c3⟩ := a4 k (by omega)
    rw [if_pos hk] at c1 c2 c3
    rw [uset_na (by decide), uset_na (by decide), uset_na (by decide), uset_na (by decide), uset_na (by omega), uset_na (by omega)]
    exact ⟨c1, c2, c3⟩
  · rw [uset_na (by omega), uset_na (by omega)]
    exact a5 b j h1 h2 h3
def PuC_c (s : SG) (J : TI) (t : Nat) (x : TS) (i : Nat) (p : SG × Int32 × Int32) : Prop := Fr W_pullAll_c s p.1 ∧ p.1 61 = s 61 ∧ p.1 62 = s 62 ∧ p.2 = lrs J t x i ∧ (∀ k, k < 8 → (p.1 89 k = if k < i then mn' J t x k else s 89 k) ∧ (p.1 90 k = if k < i then sm' J t x k else s 90 k) ∧ (p.1 (65 + t) k = if k < i then pul J t x k else s (65 + t) k)) ∧ ∀ b j, 65 ≤ b → b ≤ 88 → b ≠ 65 + t → p.1 b j = s b j
theorem puC_c {s : SG} {J : TI} {t : Nat} {x : TS} (ht : t < 24) (hn : jn J = (s 10 0).toNatClampNeg) (hn8 : jn J ≤ 8) (hse : ∀ k, k < 8 → jse J k = Int32.ofNat k) (hra : s 13 t = jra J t) (hb : s 93 t = (jbe J t).1) (hth : s 58 8 = sth x) (hfs : ∀ k, k < jn J → s 91 k = frs (jso J k) (jpo J k)) (hla : ∀ k, k < jn J → s 92 k = ltr (jso J k) (jpo J k)) (hmn : ∀ k, k < jn J → s 89 k = smn x k) (hsm : ∀ k, k < jn J → s 90 k = ssm x k) : F_pullAll_c s t 61 t = (lrs J t x (jn J)).1 ∧ F_pullAll_c s t 62 t = (lrs J t x (jn J)).2 ∧ (∀ j, j ≠ t → F_pullAll_c s t 61 j = s 61 j ∧ F_pullAll_c s t 62 j = s 62 j) ∧ (∀ k, k < jn J → F_pullAll_c s t 89 k = mn' J t x k ∧ F_pullAll_c s t 90 k = sm' J t x k ∧ F_pullAll_c s t (65 + t) k = pul J t x k) ∧ ∀ b j, 65 ≤ b → b ≤ 88 → b ≠ 65 + t → F_pullAll_c s t b j = s b j := by
  have hv3 : ∃ v3, v3 = (bif m_cmp .eq (bif m_cmp .ne (s 58 8) (-1) then (0 : Int32) else (bif m_cmp .le (s 13 t) 0 then (0 : Int32) else (1 : Int32))) 0 then (255 : Int32) else s 93 t) ∧ ∀ k, k < 8 → m_cmp .ne ((v3 >>> ((Int32.ofNat k) &&& 31)) &&& 1) 0 = !(pon J t x k) := by
    refine ⟨_, rfl, fun k hk => ?_⟩
    unfold pon
    rw [hth, hra, hse k hk, hb]
    cases m_cmp .ne (sth x) (-1) with
    | true => exact bit255 k hk
    | false =>
      cases m_cmp .le (jra J t) 0 with
      | true => exact bit255 k hk
      | false =>
        show m_cmp .ne (((jbe J t).1 >>> ((Int32.ofNat k) &&& 31)) &&& 1) 0 = _
        cases m_cmp .ne (((jbe J t).1 >>> ((Int32.ofNat k) &&& 31)) &&& 1) 0 <;> rfl
  obtain ⟨v3, ev, hv⟩ := hv3
  have eF : F_pullAll_c s t = uset (uset (itr (B_pullAll_c_33 t v3) 0 (s 10 0).toNatClampNeg (s, 0, 0)).1 61 t (itr (B_pullAll_c_33 t v3) 0 (s 10 0).toNatClampNeg (s, 0, 0)).2.1) 62 t (itr (B_pullAll_c_33 t v3) 0 (s 10 0).toNatClampNeg (s, 0, 0)).2.2 := by
    rw [ev]
    rfl
  have key : ∀ i, i ≤ jn J → PuC_c s J t x i (itr (B_pullAll_c_33 t v3) 0 i (s, 0, 0)) := by
    refine itr_ind (PuC_c s J t x) _ ?_ ?_
    · refine ⟨Fr.rf _ _, rfl, rfl, rfl, fun k _ => ⟨?_, ?_, ?_⟩, fun b j _ _ _ => rfl⟩ <;> rw [if_neg (by omega)]
    · intro i p hi h
      obtain ⟨f, a1, a2, a3, a4, a5⟩ := h
      have hi8 : i < 8 := by omega
      obtain ⟨b1, b2, b3⟩ := a4 i hi8
      rw [if_neg (by omega)] at b1 b2 b3
      have hl : lrs J t x (i + 1) = lstep J t x i (lrs J t x i) := itr_0 _ _ _
      have e33 : p.1 91 i = frs (jso J i) (jpo J i) := (f 91 i rfl).trans (hfs i hi)
      have e34 : p.1 92 i = ltr (jso J i) (jpo J i) := (f 92 i rfl).trans (hla i hi)
      have hby : (bif m_cmp .ge (p.1 89 i) 6 then p.1 92 i else p.1 91 i) = pby (jso J i) (jpo J i) (smn x i) := by
        rw [e33, e34, b1, hmn i hi]
        rfl
      have hB : B_pullAll_c_33 t v3 i p = (uset (bif pon J t x i then uset (uset p.1 89 i (p.1 89 i + 1)) 90 i (p.1 90 i + pul J t x i) else p.1) (65 + t) i (pul J t x i), lstep J t x i p.2) := by
        unfold B_pullAll_c_33 lstep pul
        dsimp only
        rw [hv i hi8, hby, hse i hi8]
        cases pon J t x i
        · cases m_cmp .ne (Int32.ofNat i - Int32.ofNat i / 2 * 2) 0 <;> rfl
        · cases m_cmp .ne (Int32.ofNat i - Int32.ofNat i / 2 * 2) 0 <;> rfl
      have hfr := f.tr (fr_B_pullAll_c_33 t v3 i p ht)
      rw [hB] at hfr ⊢
      have hmi : (bif pon J t x i then p.1 89 i + 1 else p.1 89 i) = mn' J t x i := by unfold mn'; rw [b1, hmn i hi]
      have hsi : (bif pon J t x i then p.1 90 i + pul J t x i else p.1 90 i) = sm' J t x i := by unfold sm'; rw [b2, hsm i hi]
      refine ⟨hfr, ?_, ?_, ?_, fun k hk => ⟨?_, ?_, ?_⟩, fun b j h1 h2 h3 => ?_⟩
      · funext j
        rw [← a1]
        show uset _ (65 + t) i _ 61 j = _
        rw [uset_na (by omega)]
        cases pon J t x i <;> rfl
      · funext j
        rw [← a2]
        show uset _ (65 + t) i _ 62 j = _
        rw [uset_na (by omega)]
        cases pon J t x i <;> rfl
      · rw [hl, ← a3]
      · show uset _ (65 + t) i _ 89 k = _
        rw [uset_na (by omega)]
        by_cases q : k = i
        · subst q
          rw [if_pos (by omega), ← hmi]
          cases pon J t x k
          · rfl
          · show uset (uset p.1 89 k _) 90 k _ 89 k = _
            rw [uset_na (by decide), uset_eq]
            rfl
        · have e : (bif pon J t x i then uset (uset p.1 89 i (p.1 89 i + 1)) 90 i (p.1 90 i + pul J t x i) else p.1) 89 k = p.1 89 k := by
            cases pon J t x i
            · rfl
            · show uset (uset p.1 89 i _) 90 i _ 89 k = _
              rw [uset_na (by decide), uset_nj q]
          rw [e, (a4 k hk).1]
          by_cases e2 : k < i
          · rw [if_pos e2, if_pos (by omega)]
          · rw [if_neg e2, if_neg (by omega)]
      · show uset _ (65 + t) i _ 90 k = _
        rw [uset_na (by omega)]
        by_cases q : k = i
        · subst q
          rw [if_pos (by omega), ← hsi]
          cases pon J t x k
          · rfl
          · show uset (uset p.1 89 k _) 90 k _ 90 k = _
            rw [uset_eq]
            rfl
        · have e : (bif pon J t x i then uset (uset p.1 89 i (p.1 89 i + 1)) 90 i (p.1 90 i + pul J t x i) else p.1) 90 k = p.1 90 k := by
            cases pon J t x i
            · rfl
            · show uset (uset p.1 89 i _) 90 i _ 90 k = _
              rw [uset_nj q, uset_na (by decide)]
          rw [e, (a4 k hk).2.1]
          by_cases e2 : k < i
          · rw [if_pos e2, if_pos (by omega)]
          · rw [if_neg e2, if_neg (by omega)]
      · show uset _ (65 + t) i _ (65 + t) k = _
        by_cases q : k = i
        · subst q
          rw [uset_eq, if_pos (by omega)]
        · rw [uset_nj q]
          have e : (bif pon J t x i then uset (uset p.1 89 i (p.1 89 i + 1)) 90 i (p.1 90 i + pul J t x i) else p.1) (65 + t) k = p.1 (65 + t) k := by
            cases pon J t x i
            · rfl
            · show uset (uset p.1 89 i _) 90 i _ (65 + t) k = _
              rw [uset_na (by omega), uset_na (by omega)]
          rw [e, (a4 k hk).2.2]
          by_cases e2 : k < i
          · rw [if_pos e2, if_pos (by omega)]
          · rw [if_neg e2, if_neg (by omega)]
      · show uset _ (65 + t) i _ b j = _
        rw [uset_na h3, ← a5 b j h1 h2 h3]
        cases pon J t x i
        · rfl
        · show uset (uset p.1 89 i _) 90 i _ b j = _
          rw [uset_na (by omega), uset_na (by omega)]
  obtain ⟨f, a1, a2, a3, a4, a5⟩ := key _ (Nat.le_refl _)
  rw [hn] at a1 a2 a3 a4 a5
  rw [eF]
  generalize itr (B_pullAll_c_33 t v3) 0 (s 10 0).toNatClampNeg (s, 0, 0) = z at *
  refine ⟨?_, ?_, fun j hj => ⟨?_, ?_⟩, fun k hk => ?_, fun b j h1 h2 h3 => ?_⟩
  · rw [uset_na (by decide), uset_eq, a3, hn]
  · rw [uset_eq, a3, hn]
  · rw [uset_na (by decide), uset_nj hj, a1]
  · rw [uset_nj hj, uset_na (by decide), a2]
  · rw [hn] at hk
    obtain ⟨c1, c2, c3⟩ := a4 k (by omega)
    rw [if_pos hk] at c1 c2 c3
    rw [uset_na (by decide), uset_na (by decide), uset_na (by decide), uset_na (by decide), uset_na (by omega), uset_na (by omega)]
    exact ⟨c1, c2, c3⟩
  · rw [uset_na (by omega), uset_na (by omega)]
    exact a5 b j h1 h2 h3
end
section
/-! the class: the whole trip (printed by wip/u/mk_row3.py) -/
theorem gt_le (x y : Int32) : m_cmp .gt x y = !(m_cmp .le x y) := by
  cases c : m_cmp .le x y with
  | true =>
    have h1 := mle_iff.mp c
    cases d : m_cmp .gt x y with
    | true =>
      have := m_gt_iff.mp d
      omega
    | false => rfl
  | false =>
    have h1 := m_ff mle_iff c
    exact m_gt_iff.mpr (by omega)
theorem phC_a {z : SG} {J : TI} {t : Nat} {x : TS} (h1 : z 13 t = jra J t) (h2 : z 18 t = (lrs J t x (jn J)).1) (h3 : z 19 t = (lrs J t x (jn J)).2) (h4 : z 14 t = jru J t) (h5 : z 51 t = (jbe J t).2.1) : F_placeBehind_a z t (spl' x) = (pl' J t x, bif grd J t x then uset z 20 t 1 else z) := by
  unfold F_placeBehind_a
  dsimp only
  rw [h1, h2, h3, h4, h5]
  show (bif m_cmp .le (beh J t x) 0 then ((bif m_cmp .gt (beh J t x) 0 then (20 : Int32) else (0 : Int32)), (uset z 20 t 1)) else (bif m_cmp .ge (beh J t x) 20 then ((bif m_cmp .gt (beh J t x) 0 then (20 : Int32) else (0 : Int32)), (uset z 20 t 1)) else (beh J t x, z))) = _
  unfold pl' grd
  rw [gt_le]
  cases m_cmp .le (beh J t x) 0
  · cases m_cmp .ge (beh J t x) 20 <;> rfl
  · rfl
theorem meC_a {z : SG} {J : TI} {t : Nat} {x : TS} (h1 : z 13 t = jra J t) (h2 : z 18 t = (lrs J t x (jn J)).1) (h3 : z 19 t = (lrs J t x (jn J)).2) (h4 : z 10 5 = jst J) (h5 : z 52 t = (jbe J t).2.2) (h6 : z 20 t = 0) : F_metresIn_a (bif grd J t x then uset z 20 t 1 else z) t = (bif grd J t x then way J t x / 2 else way J t x) := by
  cases grd J t x with
  | true =>
    show (bif m_cmp .ne (uset z 20 t 1 20 t) 1 then ((z 13 t * ((z 18 t + z 19 t) / 2)) + z 10 5) + z 52 t else (((z 13 t * ((z 18 t + z 19 t) / 2)) + z 10 5) + z 52 t) / 2) = _
    rw [uset_eq, h1, h2, h3, h4, h5]
    rfl
  | false =>
    show (bif m_cmp .ne (z 20 t) 1 then ((z 13 t * ((z 18 t + z 19 t) / 2)) + z 10 5) + z 52 t else (((z 13 t * ((z 18 t + z 19 t) / 2)) + z 10 5) + z 52 t) / 2) = _
    rw [h6, h1, h2, h3, h4, h5]
    rfl
/-- what the class makes of its own and of the events -/
def inC_a (s : SG) (mask : Int32) : TI := ((s 10 0).toNatClampNeg, s 11, s 12, fun k => Int32.ofNat k, s 13, s 14, s 10 5, s 10 6, befC s mask)
def OuC_a (J : TI) (i : Nat) (a : SG) : Prop := ∀ t, t < i → a 16 t = sme (trip J (t + 1)) ∧ a 17 t = spl' (trip J (t + 1)) ∧ a 18 t = (lrs J t (trip J t) (jn J)).1 ∧ a 19 t = (lrs J t (trip J t) (jn J)).2 ∧ a 20 t = gr' J t (trip J t) ∧ ∀ k, k < jn J → a (22 + t) k = pul J t (trip J t) k
def RoC_a (s : SG) (J : TI) (i : Nat) (a : SG × Int32 × Int32) : Prop := Fr W_row_a s a.1 ∧ a.2.1 = sme (trip J i) ∧ a.2.2 = spl' (trip J i) ∧ a.1 15 8 = sth (trip J i) ∧ (∀ k, k < jn J → a.1 46 k = smn (trip J i) k ∧ a.1 47 k = ssm (trip J i) k ∧ a.1 48 k = frs (jso J k) (jpo J k) ∧ a.1 49 k = ltr (jso J k) (jpo J k)) ∧ (∀ t, t < 24 → a.1 50 t = (jbe J t).1 ∧ a.1 51 t = (jbe J t).2.1 ∧ a.1 52 t = (jbe J t).2.2) ∧ OuC_a J i a.1
theorem roS_a {s : SG} {mask : Int32} {t : Nat} {a : SG × Int32 × Int32} (ht : t < 24) (hn8 : (s 10 0).toNatClampNeg ≤ 8) (h : RoC_a s (inC_a s mask) t a) : RoC_a s (inC_a s mask) (t + 1) (B_row_a_16 t a) := by
  obtain ⟨f, r1, r2, r3, r4, r5, r6⟩ := h
  have hfr := f.tr (fr_B_row_a_16 t a ht)
  generalize hJ : inC_a s mask = J at *
  have j0 : jn J = (s 10 0).toNatClampNeg := by rw [← hJ]; rfl
  have j3 : jra J = s 13 := by rw [← hJ]; rfl
  have j4 : jru J = s 14 := by rw [← hJ]; rfl
  have j5 : jst J = s 10 5 := by rw [← hJ]; rfl
  have j6 : jho J = s 10 6 := by rw [← hJ]; rfl
  have js : ∀ k, jse J k = Int32.ofNat k := fun k => by rw [← hJ]; rfl
  have P := puC_a (s := uset a.1 20 t 0) (J := J) (t := t) (x := trip J t) ht (by rw [j0]; show _ = (a.1 10 0).toNatClampNeg; rw [f 10 0 rfl]) (by rw [j0]; exact hn8) (fun k _ => js k) (by show a.1 13 t = _; rw [f 13 t rfl, j3]) (r5 t ht).1 r3 (fun k hk => (r4 k hk).2.2.1) (fun k hk => (r4 k hk).2.2.2) (fun k hk => (r4 k hk).1) (fun k hk => (r4 k hk).2.1)
  have fp := fr_pullAll_a (uset a.1 20 t 0) t ht
  obtain ⟨p1, p2, p3, p4, p5⟩ := P
  have hB : B_row_a_16 t a = (let w := (bif m_cmp .ne (F_pullAll_a (uset a.1 20 t 0) t 15 8) (-1) then (a.2.1, a.2.2, F_pullAll_a (uset a.1 20 t 0) t) else ((a.2.1 + (F_metresIn_a (F_placeBehind_a (F_pullAll_a (uset a.1 20 t 0) t) t a.2.2).2 t)), (F_placeBehind_a (F_pullAll_a (uset a.1 20 t 0) t) t a.2.2).1, (bif m_cmp .lt (a.2.1 + (F_metresIn_a (F_placeBehind_a (F_pullAll_a (uset a.1 20 t 0) t) t a.2.2).2 t)) ((F_placeBehind_a (F_pullAll_a (uset a.1 20 t 0) t) t a.2.2).2 10 6) then (F_placeBehind_a (F_pullAll_a (uset a.1 20 t 0) t) t a.2.2).2 else (uset (F_placeBehind_a (F_pullAll_a (uset a.1 20 t 0) t) t a.2.2).2 15 8 (Int32.ofNat t)))) : Int32 × Int32 × SG); ((uset (uset w.2.2 16 t w.1) 17 t w.2.1), w.1, w.2.1)) := rfl
  rw [hB] at hfr ⊢
  have q5 : F_pullAll_a (uset a.1 20 t 0) t 20 t = 0 := (fp 20 t rfl).trans (uset_eq _ _ _ _)
  have q5n : ∀ j, j ≠ t → F_pullAll_a (uset a.1 20 t 0) t 20 j = a.1 20 j := fun j hj => (fp 20 j rfl).trans (uset_nj hj)
  have q1 : ∀ j, F_pullAll_a (uset a.1 20 t 0) t 16 j = a.1 16 j := fun j => fp 16 j rfl
  have q2 : ∀ j, F_pullAll_a (uset a.1 20 t 0) t 17 j = a.1 17 j := fun j => fp 17 j rfl
  have q8 : F_pullAll_a (uset a.1 20 t 0) t 15 8 = sth (trip J t) := (fp 15 8 rfl).trans r3
  have q33 : ∀ j, F_pullAll_a (uset a.1 20 t 0) t 48 j = a.1 48 j := fun j => fp 48 j rfl
  have q34 : ∀ j, F_pullAll_a (uset a.1 20 t 0) t 49 j = a.1 49 j := fun j => fp 49 j rfl
  have q35 : ∀ j, F_pullAll_a (uset a.1 20 t 0) t 50 j = a.1 50 j := fun j => fp 50 j rfl
  have q36 : ∀ j, F_pullAll_a (uset a.1 20 t 0) t 51 j = a.1 51 j := fun j => fp 51 j rfl
  have q37 : ∀ j, F_pullAll_a (uset a.1 20 t 0) t 52 j = a.1 52 j := fun j => fp 52 j rfl
  have c3 : F_pullAll_a (uset a.1 20 t 0) t 13 t = jra J t := (fp 13 t rfl).trans (by show a.1 13 t = _; rw [f 13 t rfl, j3])
  have c4 : F_pullAll_a (uset a.1 20 t 0) t 14 t = jru J t := (fp 14 t rfl).trans (by show a.1 14 t = _; rw [f 14 t rfl, j4])
  have c05 : F_pullAll_a (uset a.1 20 t 0) t 10 5 = jst J := (fp 10 5 rfl).trans (by show a.1 10 5 = _; rw [f 10 5 rfl, j5])
  have c06 : F_pullAll_a (uset a.1 20 t 0) t 10 6 = jho J := (fp 10 6 rfl).trans (by show a.1 10 6 = _; rw [f 10 6 rfl, j6])
  have hph := phC_a (z := F_pullAll_a (uset a.1 20 t 0) t) (x := trip J t) c3 p1 p2 c4 ((q36 t).trans (r5 t ht).2.1)
  have hme := meC_a (z := F_pullAll_a (uset a.1 20 t 0) t) (x := trip J t) c3 p1 p2 c05 ((q37 t).trans (r5 t ht).2.2) q5
  rw [r2, hph, hme, r1, q8] at hfr ⊢
  generalize F_pullAll_a (uset a.1 20 t 0) t = z at *
  have hW : ∃ Z : SG, (bif m_cmp .ne (sth (trip J t)) (-1) then (sme (trip J t), spl' (trip J t), z) else ((sme (trip J t) + (bif grd J t (trip J t) then way J t (trip J t) / 2 else way J t (trip J t))), pl' J t (trip J t), (bif m_cmp .lt (sme (trip J t) + (bif grd J t (trip J t) then way J t (trip J t) / 2 else way J t (trip J t))) ((bif grd J t (trip J t) then uset z 20 t 1 else z) 10 6) then (bif grd J t (trip J t) then uset z 20 t 1 else z) else (uset (bif grd J t (trip J t) then uset z 20 t 1 else z) 15 8 (Int32.ofNat t)))) : Int32 × Int32 × SG) = (sme (trip J (t + 1)), spl' (trip J (t + 1)), Z) ∧ Z 15 8 = sth (trip J (t + 1)) ∧ (∀ j, Z 20 j = if j = t then gr' J t (trip J t) else z 20 j) ∧ ∀ b j, b ≠ 20 → b ≠ 15 → Z b j = z b j := by
    have hG : ∀ j, (bif grd J t (trip J t) then uset z 20 t 1 else z) 20 j = if j = t then (bif grd J t (trip J t) then 1 else 0) else z 20 j := fun j => by
      by_cases e : j = t
      · subst e
        rw [if_pos rfl]
        cases grd J j (trip J j)
        · exact q5
        · exact uset_eq _ _ _ _
      · rw [if_neg e]
        cases grd J t (trip J t)
        · rfl
        · exact uset_nj e
    have hG2 : ∀ b j, b ≠ 20 → (bif grd J t (trip J t) then uset z 20 t 1 else z) b j = z b j := fun b j hb => by
      cases grd J t (trip J t)
      · rfl
      · exact uset_na hb
    show ∃ Z : SG, _ = (sme (tst J t (trip J t)), spl' (tst J t (trip J t)), Z) ∧ Z 15 8 = sth (tst J t (trip J t)) ∧ _
    unfold tst gr'
    cases c : m_cmp .ne (sth (trip J t)) (-1) with
    | true =>
      refine ⟨z, rfl, q8, fun j => ?_, fun b j _ _ => rfl⟩
      by_cases e : j = t
      · rw [if_pos e, e]
        exact q5
      · rw [if_neg e]
    | false =>
      have h1 : sth (trip J t) = -1 := Decidable.of_not_not (m_ff m_ne_iff c)
      rw [hG2 10 6 (by decide), c06]
      refine ⟨_, rfl, ?_, fun j => ?_, fun b j hb hc => ?_⟩
      · show (bif m_cmp .lt (me' J t (trip J t)) (jho J) then (bif grd J t (trip J t) then uset z 20 t 1 else z) else (uset (bif grd J t (trip J t) then uset z 20 t 1 else z) 15 8 (Int32.ofNat t))) 15 8 = (bif m_cmp .lt (me' J t (trip J t)) (jho J) then -1 else Int32.ofNat t)
        cases m_cmp .lt (me' J t (trip J t)) (jho J)
        · exact uset_eq _ _ _ _
        · show (bif grd J t (trip J t) then uset z 20 t 1 else z) 15 8 = -1
          rw [hG2 15 8 (by decide), q8, h1]
      · show (bif m_cmp .lt (me' J t (trip J t)) (jho J) then (bif grd J t (trip J t) then uset z 20 t 1 else z) else (uset (bif grd J t (trip J t) then uset z 20 t 1 else z) 15 8 (Int32.ofNat t))) 20 j = _
        refine Eq.trans ?_ (hG j)
        cases m_cmp .lt (me' J t (trip J t)) (jho J)
        · exact uset_na (by decide)
        · rfl
      · show (bif m_cmp .lt (me' J t (trip J t)) (jho J) then (bif grd J t (trip J t) then uset z 20 t 1 else z) else (uset (bif grd J t (trip J t) then uset z 20 t 1 else z) 15 8 (Int32.ofNat t))) b j = _
        rw [← hG2 b j hb]
        cases m_cmp .lt (me' J t (trip J t)) (jho J)
        · exact uset_na hc
        · rfl
  obtain ⟨Z, eZ, z8, z5, zo⟩ := hW
  rw [eZ] at hfr ⊢
  dsimp only at hfr ⊢
  have hb7 : ∀ t2, t2 < 24 → 22 + t2 ≠ 20 ∧ 22 + t2 ≠ 15 ∧ 22 + t2 ≠ 16 ∧ 22 + t2 ≠ 17 := fun t2 _ => by omega
  refine ⟨hfr, rfl, rfl, z8, fun k hk => ?_, fun t2 ht2 => ?_, fun t2 ht2 => ?_⟩
  · show Z 46 k = _ ∧ Z 47 k = _ ∧ Z 48 k = _ ∧ Z 49 k = _
    rw [zo 46 k (by decide) (by decide), zo 47 k (by decide) (by decide), zo 48 k (by decide) (by decide), zo 49 k (by decide) (by decide), q33, q34]
    exact ⟨(p4 k hk).1, (p4 k hk).2.1, (r4 k hk).2.2.1, (r4 k hk).2.2.2⟩
  · show Z 50 t2 = _ ∧ Z 51 t2 = _ ∧ Z 52 t2 = _
    rw [zo 50 t2 (by decide) (by decide), zo 51 t2 (by decide) (by decide), zo 52 t2 (by decide) (by decide), q35, q36, q37]
    exact r5 t2 ht2
  · have ht3 : t2 < 24 := by omega
    obtain ⟨n1, n2, n3, n4⟩ := hb7 t2 ht3
    show uset Z 16 t (sme (trip J (t + 1))) 16 t2 = _ ∧ uset (uset Z 16 t _) 17 t (spl' (trip J (t + 1))) 17 t2 = _ ∧ Z 18 t2 = _ ∧ Z 19 t2 = _ ∧ Z 20 t2 = _ ∧ ∀ k, k < jn J → uset (uset Z 16 t _) 17 t _ (22 + t2) k = _
    rw [zo 18 t2 (by decide) (by decide), zo 19 t2 (by decide) (by decide), z5 t2]
    by_cases q : t2 = t
    · subst q
      rw [uset_eq, uset_eq, if_pos rfl]
      refine ⟨rfl, rfl, p1, p2, rfl, fun k hk => ?_⟩
      rw [uset_na n4, uset_na n3, zo _ k n1 n2]
      exact (p4 k hk).2.2
    · obtain ⟨o1, o2, o3, o4, o5, o6⟩ := r6 t2 (by omega)
      rw [uset_nj q, uset_nj q, uset_na (by decide), zo 16 t2 (by decide) (by decide), zo 17 t2 (by decide) (by decide), q1, q2, (p3 t2 q).1, (p3 t2 q).2, if_neg q, q5n t2 q]
      refine ⟨o1, o2, o3, o4, o5, fun k hk => ?_⟩
      rw [uset_na n4, uset_na n3, zo _ k n1 n2, p5 (22 + t2) k (by omega) (by omega) (by omega)]
      show uset a.1 20 t 0 (22 + t2) k = _
      rw [uset_na n1]
      exact o6 k hk
theorem rowC_a {s : SG} {mask : Int32} (hn8 : (s 10 0).toNatClampNeg ≤ 8) (hev : evC s) : ∃ m p, RoC_a s (inC_a s mask) 24 (F_row_a s mask, m, p) := by
  have fe := fr_takeEvents_a s mask
  have ft := fr_takeRowers_a (F_takeEvents_a s mask)
  have te := teC_a s mask hev
  have tr := trC_a (F_takeEvents_a s mask)
  have e0 : F_takeEvents_a s mask 10 0 = s 10 0 := fe 10 0 rfl
  rw [e0] at tr
  have k0 : RoC_a s (inC_a s mask) 0 (uset (F_takeRowers_a (F_takeEvents_a s mask)) 15 8 (-1), 0, 10) := by
    refine ⟨Fr.uset (by rfl) (Fr.tr (Fr.wk fe (by rfl)) (Fr.wk ft (by rfl))), rfl, rfl, rfl, fun k hk => ?_, fun t ht => ?_, fun t ht => absurd ht (by omega)⟩
    · obtain ⟨t1, t2, t3, t4⟩ := tr k hk
      rw [fe 11 k rfl, fe 12 k rfl] at t1 t2
      show F_takeRowers_a (F_takeEvents_a s mask) 46 k = _ ∧ F_takeRowers_a (F_takeEvents_a s mask) 47 k = _ ∧ F_takeRowers_a (F_takeEvents_a s mask) 48 k = _ ∧ F_takeRowers_a (F_takeEvents_a s mask) 49 k = _
      exact ⟨t3, t4, t1, t2⟩
    · show F_takeRowers_a (F_takeEvents_a s mask) 50 t = _ ∧ F_takeRowers_a (F_takeEvents_a s mask) 51 t = _ ∧ F_takeRowers_a (F_takeEvents_a s mask) 52 t = _
      rw [ft 50 t rfl, ft 51 t rfl, ft 52 t rfl]
      have h := te t ht
      show _ = (befC s mask t).1 ∧ _ = (befC s mask t).2.1 ∧ _ = (befC s mask t).2.2
      rw [← h]
      exact ⟨rfl, rfl, rfl⟩
  have key := itr_ind (f := B_row_a_16) (a := (uset (F_takeRowers_a (F_takeEvents_a s mask)) 15 8 (-1), 0, 10)) (RoC_a s (inC_a s mask)) 24 k0 (fun i a hi h => roS_a hi hn8 h) 24 (Nat.le_refl _)
  exact ⟨_, _, key⟩
theorem phC_b {z : SG} {J : TI} {t : Nat} {x : TS} (h1 : z 56 t = jra J t) (h2 : z 61 t = (lrs J t x (jn J)).1) (h3 : z 62 t = (lrs J t x (jn J)).2) (h4 : z 57 t = jru J t) (h5 : z 94 t = (jbe J t).2.1) : F_placeBehind_b z t (spl' x) = (pl' J t x, bif grd J t x then uset z 63 t 1 else z) := by
  unfold F_placeBehind_b
  dsimp only
  rw [h1, h2, h3, h4, h5]
  show (bif m_cmp .le (beh J t x) 0 then ((bif m_cmp .gt (beh J t x) 0 then (20 : Int32) else (0 : Int32)), (uset z 63 t 1)) else (bif m_cmp .ge (beh J t x) 20 then ((bif m_cmp .gt (beh J t x) 0 then (20 : Int32) else (0 : Int32)), (uset z 63 t 1)) else (beh J t x, z))) = _
  unfold pl' grd
  rw [gt_le]
  cases m_cmp .le (beh J t x) 0
  · cases m_cmp .ge (beh J t x) 20 <;> rfl
  · rfl
theorem meC_b {z : SG} {J : TI} {t : Nat} {x : TS} (h1 : z 56 t = jra J t) (h2 : z 61 t = (lrs J t x (jn J)).1) (h3 : z 62 t = (lrs J t x (jn J)).2) (h4 : z 53 5 = jst J) (h5 : z 95 t = (jbe J t).2.2) (h6 : z 63 t = 0) : F_metresIn_b (bif grd J t x then uset z 63 t 1 else z) t = (bif grd J t x then way J t x / 2 else way J t x) := by
  cases grd J t x with
  | true =>
    show (bif m_cmp .ne (uset z 63 t 1 63 t) 1 then ((z 56 t * ((z 61 t + z 62 t) / 2)) + z 53 5) + z 95 t else (((z 56 t * ((z 61 t + z 62 t) / 2)) + z 53 5) + z 95 t) / 2) = _
    rw [uset_eq, h1, h2, h3, h4, h5]
    rfl
  | false =>
    show (bif m_cmp .ne (z 63 t) 1 then ((z 56 t * ((z 61 t + z 62 t) / 2)) + z 53 5) + z 95 t else (((z 56 t * ((z 61 t + z 62 t) / 2)) + z 53 5) + z 95 t) / 2) = _
    rw [h6, h1, h2, h3, h4, h5]
    rfl
/-- what the class makes of its own and of the events -/
def inC_b (s : SG) (mask : Int32) : TI := ((s 53 0).toNatClampNeg, s 54, s 55, fun k => Int32.ofNat k, s 56, s 57, s 53 5, s 53 6, befC s mask)
def OuC_b (J : TI) (i : Nat) (a : SG) : Prop := ∀ t, t < i → a 59 t = sme (trip J (t + 1)) ∧ a 60 t = spl' (trip J (t + 1)) ∧ a 61 t = (lrs J t (trip J t) (jn J)).1 ∧ a 62 t = (lrs J t (trip J t) (jn J)).2 ∧ a 63 t = gr' J t (trip J t) ∧ ∀ k, k < jn J → a (65 + t) k = pul J t (trip J t) k
def RoC_b (s : SG) (J : TI) (i : Nat) (a : SG × Int32 × Int32) : Prop := Fr W_row_b s a.1 ∧ a.2.1 = sme (trip J i) ∧ a.2.2 = spl' (trip J i) ∧ a.1 58 8 = sth (trip J i) ∧ (∀ k, k < jn J → a.1 89 k = smn (trip J i) k ∧ a.1 90 k = ssm (trip J i) k ∧ a.1 91 k = frs (jso J k) (jpo J k) ∧ a.1 92 k = ltr (jso J k) (jpo J k)) ∧ (∀ t, t < 24 → a.1 93 t = (jbe J t).1 ∧ a.1 94 t = (jbe J t).2.1 ∧ a.1 95 t = (jbe J t).2.2) ∧ OuC_b J i a.1
theorem roS_b {s : SG} {mask : Int32} {t : Nat} {a : SG × Int32 × Int32} (ht : t < 24) (hn8 : (s 53 0).toNatClampNeg ≤ 8) (h : RoC_b s (inC_b s mask) t a) : RoC_b s (inC_b s mask) (t + 1) (B_row_b_16 t a) := by
  obtain ⟨f, r1, r2, r3, r4, r5, r6⟩ := h
  have hfr := f.tr (fr_B_row_b_16 t a ht)
  generalize hJ : inC_b s mask = J at *
  have j0 : jn J = (s 53 0).toNatClampNeg := by rw [← hJ]; rfl
  have j3 : jra J = s 56 := by rw [← hJ]; rfl
  have j4 : jru J = s 57 := by rw [← hJ]; rfl
  have j5 : jst J = s 53 5 := by rw [← hJ]; rfl
  have j6 : jho J = s 53 6 := by rw [← hJ]; rfl
  have js : ∀ k, jse J k = Int32.ofNat k := fun k => by rw [← hJ]; rfl
  have P := puC_b (s := uset a.1 63 t 0) (J := J) (t := t) (x := trip J t) ht (by rw [j0]; show _ = (a.1 53 0).toNatClampNeg; rw [f 53 0 rfl]) (by rw [j0]; exact hn8) (fun k _ => js k) (by show a.1 56 t = _; rw [f 56 t rfl, j3]) (r5 t ht).1 r3 (fun k hk => (r4 k hk).2.2.1) (fun k hk => (r4 k hk).2.2.2) (fun k hk => (r4 k hk).1) (fun k hk => (r4 k hk).2.1)
  have fp := fr_pullAll_b (uset a.1 63 t 0) t ht
  obtain ⟨p1, p2, p3, p4, p5⟩ := P
  have hB : B_row_b_16 t a = (let w := (bif m_cmp .ne (F_pullAll_b (uset a.1 63 t 0) t 58 8) (-1) then (a.2.1, a.2.2, F_pullAll_b (uset a.1 63 t 0) t) else ((a.2.1 + (F_metresIn_b (F_placeBehind_b (F_pullAll_b (uset a.1 63 t 0) t) t a.2.2).2 t)), (F_placeBehind_b (F_pullAll_b (uset a.1 63 t 0) t) t a.2.2).1, (bif m_cmp .lt (a.2.1 + (F_metresIn_b (F_placeBehind_b (F_pullAll_b (uset a.1 63 t 0) t) t a.2.2).2 t)) ((F_placeBehind_b (F_pullAll_b (uset a.1 63 t 0) t) t a.2.2).2 53 6) then (F_placeBehind_b (F_pullAll_b (uset a.1 63 t 0) t) t a.2.2).2 else (uset (F_placeBehind_b (F_pullAll_b (uset a.1 63 t 0) t) t a.2.2).2 58 8 (Int32.ofNat t)))) : Int32 × Int32 × SG); ((uset (uset w.2.2 59 t w.1) 60 t w.2.1), w.1, w.2.1)) := rfl
  rw [hB] at hfr ⊢
  have q5 : F_pullAll_b (uset a.1 63 t 0) t 63 t = 0 := (fp 63 t rfl).trans (uset_eq _ _ _ _)
  have q5n : ∀ j, j ≠ t → F_pullAll_b (uset a.1 63 t 0) t 63 j = a.1 63 j := fun j hj => (fp 63 j rfl).trans (uset_nj hj)
  have q1 : ∀ j, F_pullAll_b (uset a.1 63 t 0) t 59 j = a.1 59 j := fun j => fp 59 j rfl
  have q2 : ∀ j, F_pullAll_b (uset a.1 63 t 0) t 60 j = a.1 60 j := fun j => fp 60 j rfl
  have q8 : F_pullAll_b (uset a.1 63 t 0) t 58 8 = sth (trip J t) := (fp 58 8 rfl).trans r3
  have q33 : ∀ j, F_pullAll_b (uset a.1 63 t 0) t 91 j = a.1 91 j := fun j => fp 91 j rfl
  have q34 : ∀ j, F_pullAll_b (uset a.1 63 t 0) t 92 j = a.1 92 j := fun j => fp 92 j rfl
  have q35 : ∀ j, F_pullAll_b (uset a.1 63 t 0) t 93 j = a.1 93 j := fun j => fp 93 j rfl
  have q36 : ∀ j, F_pullAll_b (uset a.1 63 t 0) t 94 j = a.1 94 j := fun j => fp 94 j rfl
  have q37 : ∀ j, F_pullAll_b (uset a.1 63 t 0) t 95 j = a.1 95 j := fun j => fp 95 j rfl
  have c3 : F_pullAll_b (uset a.1 63 t 0) t 56 t = jra J t := (fp 56 t rfl).trans (by show a.1 56 t = _; rw [f 56 t rfl, j3])
  have c4 : F_pullAll_b (uset a.1 63 t 0) t 57 t = jru J t := (fp 57 t rfl).trans (by show a.1 57 t = _; rw [f 57 t rfl, j4])
  have c05 : F_pullAll_b (uset a.1 63 t 0) t 53 5 = jst J := (fp 53 5 rfl).trans (by show a.1 53 5 = _; rw [f 53 5 rfl, j5])
  have c06 : F_pullAll_b (uset a.1 63 t 0) t 53 6 = jho J := (fp 53 6 rfl).trans (by show a.1 53 6 = _; rw [f 53 6 rfl, j6])
  have hph := phC_b (z := F_pullAll_b (uset a.1 63 t 0) t) (x := trip J t) c3 p1 p2 c4 ((q36 t).trans (r5 t ht).2.1)
  have hme := meC_b (z := F_pullAll_b (uset a.1 63 t 0) t) (x := trip J t) c3 p1 p2 c05 ((q37 t).trans (r5 t ht).2.2) q5
  rw [r2, hph, hme, r1, q8] at hfr ⊢
  generalize F_pullAll_b (uset a.1 63 t 0) t = z at *
  have hW : ∃ Z : SG, (bif m_cmp .ne (sth (trip J t)) (-1) then (sme (trip J t), spl' (trip J t), z) else ((sme (trip J t) + (bif grd J t (trip J t) then way J t (trip J t) / 2 else way J t (trip J t))), pl' J t (trip J t), (bif m_cmp .lt (sme (trip J t) + (bif grd J t (trip J t) then way J t (trip J t) / 2 else way J t (trip J t))) ((bif grd J t (trip J t) then uset z 63 t 1 else z) 53 6) then (bif grd J t (trip J t) then uset z 63 t 1 else z) else (uset (bif grd J t (trip J t) then uset z 63 t 1 else z) 58 8 (Int32.ofNat t)))) : Int32 × Int32 × SG) = (sme (trip J (t + 1)), spl' (trip J (t + 1)), Z) ∧ Z 58 8 = sth (trip J (t + 1)) ∧ (∀ j, Z 63 j = if j = t then gr' J t (trip J t) else z 63 j) ∧ ∀ b j, b ≠ 63 → b ≠ 58 → Z b j = z b j := by
    have hG : ∀ j, (bif grd J t (trip J t) then uset z 63 t 1 else z) 63 j = if j = t then (bif grd J t (trip J t) then 1 else 0) else z 63 j := fun j => by
      by_cases e : j = t
      · subst e
        rw [if_pos rfl]
        cases grd J j (trip J j)
        · exact q5
        · exact uset_eq _ _ _ _
      · rw [if_neg e]
        cases grd J t (trip J t)
        · rfl
        · exact uset_nj e
    have hG2 : ∀ b j, b ≠ 63 → (bif grd J t (trip J t) then uset z 63 t 1 else z) b j = z b j := fun b j hb => by
      cases grd J t (trip J t)
      · rfl
      · exact uset_na hb
    show ∃ Z : SG, _ = (sme (tst J t (trip J t)), spl' (tst J t (trip J t)), Z) ∧ Z 58 8 = sth (tst J t (trip J t)) ∧ _
    unfold tst gr'
    cases c : m_cmp .ne (sth (trip J t)) (-1) with
    | true =>
      refine ⟨z, rfl, q8, fun j => ?_, fun b j _ _ => rfl⟩
      by_cases e : j = t
      · rw [if_pos e, e]
        exact q5
      · rw [if_neg e]
    | false =>
      have h1 : sth (trip J t) = -1 := Decidable.of_not_not (m_ff m_ne_iff c)
      rw [hG2 53 6 (by decide), c06]
      refine ⟨_, rfl, ?_, fun j => ?_, fun b j hb hc => ?_⟩
      · show (bif m_cmp .lt (me' J t (trip J t)) (jho J) then (bif grd J t (trip J t) then uset z 63 t 1 else z) else (uset (bif grd J t (trip J t) then uset z 63 t 1 else z) 58 8 (Int32.ofNat t))) 58 8 = (bif m_cmp .lt (me' J t (trip J t)) (jho J) then -1 else Int32.ofNat t)
        cases m_cmp .lt (me' J t (trip J t)) (jho J)
        · exact uset_eq _ _ _ _
        · show (bif grd J t (trip J t) then uset z 63 t 1 else z) 58 8 = -1
          rw [hG2 58 8 (by decide), q8, h1]
      · show (bif m_cmp .lt (me' J t (trip J t)) (jho J) then (bif grd J t (trip J t) then uset z 63 t 1 else z) else (uset (bif grd J t (trip J t) then uset z 63 t 1 else z) 58 8 (Int32.ofNat t))) 63 j = _
        refine Eq.trans ?_ (hG j)
        cases m_cmp .lt (me' J t (trip J t)) (jho J)
        · exact uset_na (by decide)
        · rfl
      · show (bif m_cmp .lt (me' J t (trip J t)) (jho J) then (bif grd J t (trip J t) then uset z 63 t 1 else z) else (uset (bif grd J t (trip J t) then uset z 63 t 1 else z) 58 8 (Int32.ofNat t))) b j = _
        rw [← hG2 b j hb]
        cases m_cmp .lt (me' J t (trip J t)) (jho J)
        · exact uset_na hc
        · rfl
  obtain ⟨Z, eZ, z8, z5, zo⟩ := hW
  rw [eZ] at hfr ⊢
  dsimp only at hfr ⊢
  have hb7 : ∀ t2, t2 < 24 → 65 + t2 ≠ 63 ∧ 65 + t2 ≠ 58 ∧ 65 + t2 ≠ 59 ∧ 65 + t2 ≠ 60 := fun t2 _ => by omega
  refine ⟨hfr, rfl, rfl, z8, fun k hk => ?_, fun t2 ht2 => ?_, fun t2 ht2 => ?_⟩
  · show Z 89 k = _ ∧ Z 90 k = _ ∧ Z 91 k = _ ∧ Z 92 k = _
    rw [zo 89 k (by decide) (by decide), zo 90 k (by decide) (by decide), zo 91 k (by decide) (by decide), zo 92 k (by decide) (by decide), q33, q34]
    exact ⟨(p4 k hk).1, (p4 k hk).2.1, (r4 k hk).2.2.1, (r4 k hk).2.2.2⟩
  · show Z 93 t2 = _ ∧ Z 94 t2 = _ ∧ Z 95 t2 = _
    rw [zo 93 t2 (by decide) (by decide), zo 94 t2 (by decide) (by decide), zo 95 t2 (by decide) (by decide), q35, q36, q37]
    exact r5 t2 ht2
  · have ht3 : t2 < 24 := by omega
    obtain ⟨n1, n2, n3, n4⟩ := hb7 t2 ht3
    show uset Z 59 t (sme (trip J (t + 1))) 59 t2 = _ ∧ uset (uset Z 59 t _) 60 t (spl' (trip J (t + 1))) 60 t2 = _ ∧ Z 61 t2 = _ ∧ Z 62 t2 = _ ∧ Z 63 t2 = _ ∧ ∀ k, k < jn J → uset (uset Z 59 t _) 60 t _ (65 + t2) k = _
    rw [zo 61 t2 (by decide) (by decide), zo 62 t2 (by decide) (by decide), z5 t2]
    by_cases q : t2 = t
    · subst q
      rw [uset_eq, uset_eq, if_pos rfl]
      refine ⟨rfl, rfl, p1, p2, rfl, fun k hk => ?_⟩
      rw [uset_na n4, uset_na n3, zo _ k n1 n2]
      exact (p4 k hk).2.2
    · obtain ⟨o1, o2, o3, o4, o5, o6⟩ := r6 t2 (by omega)
      rw [uset_nj q, uset_nj q, uset_na (by decide), zo 59 t2 (by decide) (by decide), zo 60 t2 (by decide) (by decide), q1, q2, (p3 t2 q).1, (p3 t2 q).2, if_neg q, q5n t2 q]
      refine ⟨o1, o2, o3, o4, o5, fun k hk => ?_⟩
      rw [uset_na n4, uset_na n3, zo _ k n1 n2, p5 (65 + t2) k (by omega) (by omega) (by omega)]
      show uset a.1 63 t 0 (65 + t2) k = _
      rw [uset_na n1]
      exact o6 k hk
theorem rowC_b {s : SG} {mask : Int32} (hn8 : (s 53 0).toNatClampNeg ≤ 8) (hev : evC s) : ∃ m p, RoC_b s (inC_b s mask) 24 (F_row_b s mask, m, p) := by
  have fe := fr_takeEvents_b s mask
  have ft := fr_takeRowers_b (F_takeEvents_b s mask)
  have te := teC_b s mask hev
  have tr := trC_b (F_takeEvents_b s mask)
  have e0 : F_takeEvents_b s mask 53 0 = s 53 0 := fe 53 0 rfl
  rw [e0] at tr
  have k0 : RoC_b s (inC_b s mask) 0 (uset (F_takeRowers_b (F_takeEvents_b s mask)) 58 8 (-1), 0, 10) := by
    refine ⟨Fr.uset (by rfl) (Fr.tr (Fr.wk fe (by rfl)) (Fr.wk ft (by rfl))), rfl, rfl, rfl, fun k hk => ?_, fun t ht => ?_, fun t ht => absurd ht (by omega)⟩
    · obtain ⟨t1, t2, t3, t4⟩ := tr k hk
      rw [fe 54 k rfl, fe 55 k rfl] at t1 t2
      show F_takeRowers_b (F_takeEvents_b s mask) 89 k = _ ∧ F_takeRowers_b (F_takeEvents_b s mask) 90 k = _ ∧ F_takeRowers_b (F_takeEvents_b s mask) 91 k = _ ∧ F_takeRowers_b (F_takeEvents_b s mask) 92 k = _
      exact ⟨t3, t4, t1, t2⟩
    · show F_takeRowers_b (F_takeEvents_b s mask) 93 t = _ ∧ F_takeRowers_b (F_takeEvents_b s mask) 94 t = _ ∧ F_takeRowers_b (F_takeEvents_b s mask) 95 t = _
      rw [ft 93 t rfl, ft 94 t rfl, ft 95 t rfl]
      have h := te t ht
      show _ = (befC s mask t).1 ∧ _ = (befC s mask t).2.1 ∧ _ = (befC s mask t).2.2
      rw [← h]
      exact ⟨rfl, rfl, rfl⟩
  have key := itr_ind (f := B_row_b_16) (a := (uset (F_takeRowers_b (F_takeEvents_b s mask)) 58 8 (-1), 0, 10)) (RoC_b s (inC_b s mask)) 24 k0 (fun i a hi h => roS_b hi hn8 h) 24 (Nat.le_refl _)
  exact ⟨_, _, key⟩
theorem phC_c {z : SG} {J : TI} {t : Nat} {x : TS} (h1 : z 13 t = jra J t) (h2 : z 61 t = (lrs J t x (jn J)).1) (h3 : z 62 t = (lrs J t x (jn J)).2) (h4 : z 14 t = jru J t) (h5 : z 94 t = (jbe J t).2.1) : F_placeBehind_c z t (spl' x) = (pl' J t x, bif grd J t x then uset z 63 t 1 else z) := by
  unfold F_placeBehind_c
  dsimp only
  rw [h1, h2, h3, h4, h5]
  show (bif m_cmp .le (beh J t x) 0 then ((bif m_cmp .gt (beh J t x) 0 then (20 : Int32) else (0 : Int32)), (uset z 63 t 1)) else (bif m_cmp .ge (beh J t x) 20 then ((bif m_cmp .gt (beh J t x) 0 then (20 : Int32) else (0 : Int32)), (uset z 63 t 1)) else (beh J t x, z))) = _
  unfold pl' grd
  rw [gt_le]
  cases m_cmp .le (beh J t x) 0
  · cases m_cmp .ge (beh J t x) 20 <;> rfl
  · rfl
theorem meC_c {z : SG} {J : TI} {t : Nat} {x : TS} (h1 : z 13 t = jra J t) (h2 : z 61 t = (lrs J t x (jn J)).1) (h3 : z 62 t = (lrs J t x (jn J)).2) (h4 : z 10 5 = jst J) (h5 : z 95 t = (jbe J t).2.2) (h6 : z 63 t = 0) : F_metresIn_c (bif grd J t x then uset z 63 t 1 else z) t = (bif grd J t x then way J t x / 2 else way J t x) := by
  cases grd J t x with
  | true =>
    show (bif m_cmp .ne (uset z 63 t 1 63 t) 1 then ((z 13 t * ((z 61 t + z 62 t) / 2)) + z 10 5) + z 95 t else (((z 13 t * ((z 61 t + z 62 t) / 2)) + z 10 5) + z 95 t) / 2) = _
    rw [uset_eq, h1, h2, h3, h4, h5]
    rfl
  | false =>
    show (bif m_cmp .ne (z 63 t) 1 then ((z 13 t * ((z 61 t + z 62 t) / 2)) + z 10 5) + z 95 t else (((z 13 t * ((z 61 t + z 62 t) / 2)) + z 10 5) + z 95 t) / 2) = _
    rw [h6, h1, h2, h3, h4, h5]
    rfl
/-- what the class makes of its own and of the events -/
def inC_c (s : SG) (mask : Int32) : TI := ((s 10 0).toNatClampNeg, s 11, s 12, fun k => Int32.ofNat k, s 13, s 14, s 10 5, s 10 6, befC s mask)
def OuC_c (J : TI) (i : Nat) (a : SG) : Prop := ∀ t, t < i → a 59 t = sme (trip J (t + 1)) ∧ a 60 t = spl' (trip J (t + 1)) ∧ a 61 t = (lrs J t (trip J t) (jn J)).1 ∧ a 62 t = (lrs J t (trip J t) (jn J)).2 ∧ a 63 t = gr' J t (trip J t) ∧ ∀ k, k < jn J → a (65 + t) k = pul J t (trip J t) k
def RoC_c (s : SG) (J : TI) (i : Nat) (a : SG × Int32 × Int32) : Prop := Fr W_row_c s a.1 ∧ a.2.1 = sme (trip J i) ∧ a.2.2 = spl' (trip J i) ∧ a.1 58 8 = sth (trip J i) ∧ (∀ k, k < jn J → a.1 89 k = smn (trip J i) k ∧ a.1 90 k = ssm (trip J i) k ∧ a.1 91 k = frs (jso J k) (jpo J k) ∧ a.1 92 k = ltr (jso J k) (jpo J k)) ∧ (∀ t, t < 24 → a.1 93 t = (jbe J t).1 ∧ a.1 94 t = (jbe J t).2.1 ∧ a.1 95 t = (jbe J t).2.2) ∧ OuC_c J i a.1
theorem roS_c {s : SG} {mask : Int32} {t : Nat} {a : SG × Int32 × Int32} (ht : t < 24) (hn8 : (s 10 0).toNatClampNeg ≤ 8) (h : RoC_c s (inC_c s mask) t a) : RoC_c s (inC_c s mask) (t + 1) (B_row_c_16 t a) := by
  obtain ⟨f, r1, r2, r3, r4, r5, r6⟩ := h
  have hfr := f.tr (fr_B_row_c_16 t a ht)
  generalize hJ : inC_c s mask = J at *
  have j0 : jn J = (s 10 0).toNatClampNeg := by rw [← hJ]; rfl
  have j3 : jra J = s 13 := by rw [← hJ]; rfl
  have j4 : jru J = s 14 := by rw [← hJ]; rfl
  have j5 : jst J = s 10 5 := by rw [← hJ]; rfl
  have j6 : jho J = s 10 6 := by rw [← hJ]; rfl
  have js : ∀ k, jse J k = Int32.ofNat k := fun k => by rw [← hJ]; rfl
  have P := puC_c (s := uset a.1 63 t 0) (J := J) (t := t) (x := trip J t) ht (by rw [j0]; show _ = (a.1 10 0).toNatClampNeg; rw [f 10 0 rfl]) (by rw [j0]; exact hn8) (fun k _ => js k) (by show a.1 13 t = _; rw [f 13 t rfl, j3]) (r5 t ht).1 r3 (fun k hk => (r4 k hk).2.2.1) (fun k hk => (r4 k hk).2.2.2) (fun k hk => (r4 k hk).1) (fun k hk => (r4 k hk).2.1)
  have fp := fr_pullAll_c (uset a.1 63 t 0) t ht
  obtain ⟨p1, p2, p3, p4, p5⟩ := P
  have hB : B_row_c_16 t a = (let w := (bif m_cmp .ne (F_pullAll_c (uset a.1 63 t 0) t 58 8) (-1) then (a.2.1, a.2.2, F_pullAll_c (uset a.1 63 t 0) t) else ((a.2.1 + (F_metresIn_c (F_placeBehind_c (F_pullAll_c (uset a.1 63 t 0) t) t a.2.2).2 t)), (F_placeBehind_c (F_pullAll_c (uset a.1 63 t 0) t) t a.2.2).1, (bif m_cmp .lt (a.2.1 + (F_metresIn_c (F_placeBehind_c (F_pullAll_c (uset a.1 63 t 0) t) t a.2.2).2 t)) ((F_placeBehind_c (F_pullAll_c (uset a.1 63 t 0) t) t a.2.2).2 10 6) then (F_placeBehind_c (F_pullAll_c (uset a.1 63 t 0) t) t a.2.2).2 else (uset (F_placeBehind_c (F_pullAll_c (uset a.1 63 t 0) t) t a.2.2).2 58 8 (Int32.ofNat t)))) : Int32 × Int32 × SG); ((uset (uset w.2.2 59 t w.1) 60 t w.2.1), w.1, w.2.1)) := rfl
  rw [hB] at hfr ⊢
  have q5 : F_pullAll_c (uset a.1 63 t 0) t 63 t = 0 := (fp 63 t rfl).trans (uset_eq _ _ _ _)
  have q5n : ∀ j, j ≠ t → F_pullAll_c (uset a.1 63 t 0) t 63 j = a.1 63 j := fun j hj => (fp 63 j rfl).trans (uset_nj hj)
  have q1 : ∀ j, F_pullAll_c (uset a.1 63 t 0) t 59 j = a.1 59 j := fun j => fp 59 j rfl
  have q2 : ∀ j, F_pullAll_c (uset a.1 63 t 0) t 60 j = a.1 60 j := fun j => fp 60 j rfl
  have q8 : F_pullAll_c (uset a.1 63 t 0) t 58 8 = sth (trip J t) := (fp 58 8 rfl).trans r3
  have q33 : ∀ j, F_pullAll_c (uset a.1 63 t 0) t 91 j = a.1 91 j := fun j => fp 91 j rfl
  have q34 : ∀ j, F_pullAll_c (uset a.1 63 t 0) t 92 j = a.1 92 j := fun j => fp 92 j rfl
  have q35 : ∀ j, F_pullAll_c (uset a.1 63 t 0) t 93 j = a.1 93 j := fun j => fp 93 j rfl
  have q36 : ∀ j, F_pullAll_c (uset a.1 63 t 0) t 94 j = a.1 94 j := fun j => fp 94 j rfl
  have q37 : ∀ j, F_pullAll_c (uset a.1 63 t 0) t 95 j = a.1 95 j := fun j => fp 95 j rfl
  have c3 : F_pullAll_c (uset a.1 63 t 0) t 13 t = jra J t := (fp 13 t rfl).trans (by show a.1 13 t = _; rw [f 13 t rfl, j3])
  have c4 : F_pullAll_c (uset a.1 63 t 0) t 14 t = jru J t := (fp 14 t rfl).trans (by show a.1 14 t = _; rw [f 14 t rfl, j4])
  have c05 : F_pullAll_c (uset a.1 63 t 0) t 10 5 = jst J := (fp 10 5 rfl).trans (by show a.1 10 5 = _; rw [f 10 5 rfl, j5])
  have c06 : F_pullAll_c (uset a.1 63 t 0) t 10 6 = jho J := (fp 10 6 rfl).trans (by show a.1 10 6 = _; rw [f 10 6 rfl, j6])
  have hph := phC_c (z := F_pullAll_c (uset a.1 63 t 0) t) (x := trip J t) c3 p1 p2 c4 ((q36 t).trans (r5 t ht).2.1)
  have hme := meC_c (z := F_pullAll_c (uset a.1 63 t 0) t) (x := trip J t) c3 p1 p2 c05 ((q37 t).trans (r5 t ht).2.2) q5
  rw [r2, hph, hme, r1, q8] at hfr ⊢
  generalize F_pullAll_c (uset a.1 63 t 0) t = z at *
  have hW : ∃ Z : SG, (bif m_cmp .ne (sth (trip J t)) (-1) then (sme (trip J t), spl' (trip J t), z) else ((sme (trip J t) + (bif grd J t (trip J t) then way J t (trip J t) / 2 else way J t (trip J t))), pl' J t (trip J t), (bif m_cmp .lt (sme (trip J t) + (bif grd J t (trip J t) then way J t (trip J t) / 2 else way J t (trip J t))) ((bif grd J t (trip J t) then uset z 63 t 1 else z) 10 6) then (bif grd J t (trip J t) then uset z 63 t 1 else z) else (uset (bif grd J t (trip J t) then uset z 63 t 1 else z) 58 8 (Int32.ofNat t)))) : Int32 × Int32 × SG) = (sme (trip J (t + 1)), spl' (trip J (t + 1)), Z) ∧ Z 58 8 = sth (trip J (t + 1)) ∧ (∀ j, Z 63 j = if j = t then gr' J t (trip J t) else z 63 j) ∧ ∀ b j, b ≠ 63 → b ≠ 58 → Z b j = z b j := by
    have hG : ∀ j, (bif grd J t (trip J t) then uset z 63 t 1 else z) 63 j = if j = t then (bif grd J t (trip J t) then 1 else 0) else z 63 j := fun j => by
      by_cases e : j = t
      · subst e
        rw [if_pos rfl]
        cases grd J j (trip J j)
        · exact q5
        · exact uset_eq _ _ _ _
      · rw [if_neg e]
        cases grd J t (trip J t)
        · rfl
        · exact uset_nj e
    have hG2 : ∀ b j, b ≠ 63 → (bif grd J t (trip J t) then uset z 63 t 1 else z) b j = z b j := fun b j hb => by
      cases grd J t (trip J t)
      · rfl
      · exact uset_na hb
    show ∃ Z : SG, _ = (sme (tst J t (trip J t)), spl' (tst J t (trip J t)), Z) ∧ Z 58 8 = sth (tst J t (trip J t)) ∧ _
    unfold tst gr'
    cases c : m_cmp .ne (sth (trip J t)) (-1) with
    | true =>
      refine ⟨z, rfl, q8, fun j => ?_, fun b j _ _ => rfl⟩
      by_cases e : j = t
      · rw [if_pos e, e]
        exact q5
      · rw [if_neg e]
    | false =>
      have h1 : sth (trip J t) = -1 := Decidable.of_not_not (m_ff m_ne_iff c)
      rw [hG2 10 6 (by decide), c06]
      refine ⟨_, rfl, ?_, fun j => ?_, fun b j hb hc => ?_⟩
      · show (bif m_cmp .lt (me' J t (trip J t)) (jho J) then (bif grd J t (trip J t) then uset z 63 t 1 else z) else (uset (bif grd J t (trip J t) then uset z 63 t 1 else z) 58 8 (Int32.ofNat t))) 58 8 = (bif m_cmp .lt (me' J t (trip J t)) (jho J) then -1 else Int32.ofNat t)
        cases m_cmp .lt (me' J t (trip J t)) (jho J)
        · exact uset_eq _ _ _ _
        · show (bif grd J t (trip J t) then uset z 63 t 1 else z) 58 8 = -1
          rw [hG2 58 8 (by decide), q8, h1]
      · show (bif m_cmp .lt (me' J t (trip J t)) (jho J) then (bif grd J t (trip J t) then uset z 63 t 1 else z) else (uset (bif grd J t (trip J t) then uset z 63 t 1 else z) 58 8 (Int32.ofNat t))) 63 j = _
        refine Eq.trans ?_ (hG j)
        cases m_cmp .lt (me' J t (trip J t)) (jho J)
        · exact uset_na (by decide)
        · rfl
      · show (bif m_cmp .lt (me' J t (trip J t)) (jho J) then (bif grd J t (trip J t) then uset z 63 t 1 else z) else (uset (bif grd J t (trip J t) then uset z 63 t 1 else z) 58 8 (Int32.ofNat t))) b j = _
        rw [← hG2 b j hb]
        cases m_cmp .lt (me' J t (trip J t)) (jho J)
        · exact uset_na hc
        · rfl
  obtain ⟨Z, eZ, z8, z5, zo⟩ := hW
  rw [eZ] at hfr ⊢
  dsimp only at hfr ⊢
  have hb7 : ∀ t2, t2 < 24 → 65 + t2 ≠ 63 ∧ 65 + t2 ≠ 58 ∧ 65 + t2 ≠ 59 ∧ 65 + t2 ≠ 60 := fun t2 _ => by omega
  refine ⟨hfr, rfl, rfl, z8, fun k hk => ?_, fun t2 ht2 => ?_, fun t2 ht2 => ?_⟩
  · show Z 89 k = _ ∧ Z 90 k = _ ∧ Z 91 k = _ ∧ Z 92 k = _
    rw [zo 89 k (by decide) (by decide), zo 90 k (by decide) (by decide), zo 91 k (by decide) (by decide), zo 92 k (by decide) (by decide), q33, q34]
    exact ⟨(p4 k hk).1, (p4 k hk).2.1, (r4 k hk).2.2.1, (r4 k hk).2.2.2⟩
  · show Z 93 t2 = _ ∧ Z 94 t2 = _ ∧ Z 95 t2 = _
    rw [zo 93 t2 (by decide) (by decide), zo 94 t2 (by decide) (by decide), zo 95 t2 (by decide) (by decide), q35, q36, q37]
    exact r5 t2 ht2
  · have ht3 : t2 < 24 := by omega
    obtain ⟨n1, n2, n3, n4⟩ := hb7 t2 ht3
    show uset Z 59 t (sme (trip J (t + 1))) 59 t2 = _ ∧ uset (uset Z 59 t _) 60 t (spl' (trip J (t + 1))) 60 t2 = _ ∧ Z 61 t2 = _ ∧ Z 62 t2 = _ ∧ Z 63 t2 = _ ∧ ∀ k, k < jn J → uset (uset Z 59 t _) 60 t _ (65 + t2) k = _
    rw [zo 61 t2 (by decide) (by decide), zo 62 t2 (by decide) (by decide), z5 t2]
    by_cases q : t2 = t
    · subst q
      rw [uset_eq, uset_eq, if_pos rfl]
      refine ⟨rfl, rfl, p1, p2, rfl, fun k hk => ?_⟩
      rw [uset_na n4, uset_na n3, zo _ k n1 n2]
      exact (p4 k hk).2.2
    · obtain ⟨o1, o2, o3, o4, o5, o6⟩ := r6 t2 (by omega)
      rw [uset_nj q, uset_nj q, uset_na (by decide), zo 59 t2 (by decide) (by decide), zo 60 t2 (by decide) (by decide), q1, q2, (p3 t2 q).1, (p3 t2 q).2, if_neg q, q5n t2 q]
      refine ⟨o1, o2, o3, o4, o5, fun k hk => ?_⟩
      rw [uset_na n4, uset_na n3, zo _ k n1 n2, p5 (65 + t2) k (by omega) (by omega) (by omega)]
      show uset a.1 63 t 0 (65 + t2) k = _
      rw [uset_na n1]
      exact o6 k hk
theorem rowC_c {s : SG} {mask : Int32} (hn8 : (s 10 0).toNatClampNeg ≤ 8) (hev : evC s) : ∃ m p, RoC_c s (inC_c s mask) 24 (F_row_c s mask, m, p) := by
  have fe := fr_takeEvents_b s mask
  have ft := fr_takeRowers_c (F_takeEvents_b s mask)
  have te := teC_b s mask hev
  have tr := trC_c (F_takeEvents_b s mask)
  have e0 : F_takeEvents_b s mask 10 0 = s 10 0 := fe 10 0 rfl
  rw [e0] at tr
  have k0 : RoC_c s (inC_c s mask) 0 (uset (F_takeRowers_c (F_takeEvents_b s mask)) 58 8 (-1), 0, 10) := by
    refine ⟨Fr.uset (by rfl) (Fr.tr (Fr.wk fe (by rfl)) (Fr.wk ft (by rfl))), rfl, rfl, rfl, fun k hk => ?_, fun t ht => ?_, fun t ht => absurd ht (by omega)⟩
    · obtain ⟨t1, t2, t3, t4⟩ := tr k hk
      rw [fe 11 k rfl, fe 12 k rfl] at t1 t2
      show F_takeRowers_c (F_takeEvents_b s mask) 89 k = _ ∧ F_takeRowers_c (F_takeEvents_b s mask) 90 k = _ ∧ F_takeRowers_c (F_takeEvents_b s mask) 91 k = _ ∧ F_takeRowers_c (F_takeEvents_b s mask) 92 k = _
      exact ⟨t3, t4, t1, t2⟩
    · show F_takeRowers_c (F_takeEvents_b s mask) 93 t = _ ∧ F_takeRowers_c (F_takeEvents_b s mask) 94 t = _ ∧ F_takeRowers_c (F_takeEvents_b s mask) 95 t = _
      rw [ft 93 t rfl, ft 94 t rfl, ft 95 t rfl]
      have h := te t ht
      show _ = (befC s mask t).1 ∧ _ = (befC s mask t).2.1 ∧ _ = (befC s mask t).2.2
      rw [← h]
      exact ⟨rfl, rfl, rfl⟩
  have key := itr_ind (f := B_row_c_16) (a := (uset (F_takeRowers_c (F_takeEvents_b s mask)) 58 8 (-1), 0, 10)) (RoC_c s (inC_c s mask)) 24 k0 (fun i a hi h => roS_c hi hn8 h) 24 (Nat.le_refl _)
  exact ⟨_, _, key⟩
end
section
/-! FROM THE UNCHECKED MACHINE TO PAIRS OF CALLS -/
def wkF (f g : AF) : Bool := match f, g with
  | .inl r, .inl q => r == q
  | .inr _, .inr (lo, hi, _) => decide (lo = -2147483648) && decide (hi = 2147483647)
  | _, _ => false
def wkC (c d : AC) : Bool := match c, d with
  | .inl (t, n, _, _, _), .inl (t2, n2, lo, hi, _) => t == t2 && (n == n2 && (decide (lo = -2147483648) && decide (hi = 2147483647)))
  | .inr (.inl (t, rs)), .inr (.inl (t2, qs)) => !(t == 99) && (t == t2 && rs == qs)
  | .inr (.inr (ci, fs)), .inr (.inr (cj, gs)) => ci == cj && (fs.length == gs.length && (List.range gs.length).all (fun k => match fs[k]?, gs[k]? with | some f, some g => wkF f g | _, _ => false))
  | _, _ => false
theorem wkF_ok {f g : AF} {v : Value} (h : wkF f g = true) (q : gF f v) : gF g v := by
  rcases f with r | ⟨lo, hi, fz⟩
  · rcases g with r2 | ⟨lo2, hi2, fz2⟩
    · have e : r = r2 := by simpa [wkF] using h
      subst e
      exact q
    · cases h
  · rcases g with r2 | ⟨lo2, hi2, fz2⟩
    · cases h
    · obtain ⟨h1, h2⟩ := b_and h
      have h1 := of_decide_eq_true h1
      have h2 := of_decide_eq_true h2
      obtain ⟨x, rfl, -, -⟩ := q
      exact ⟨x, rfl, by rw [h1]; exact i32_ge x, by rw [h2]; exact i32_le x⟩
theorem wkC_ok {c d : AC} {x : ME} (h : wkC c d = true) (q : gC c x) : gC d x := by
  rcases c with ⟨t, n, lo, hi, fz⟩ | ⟨t, rs⟩ | ⟨ci, fs⟩
  · rcases d with ⟨t2, n2, lo2, hi2, fz2⟩ | ⟨t2, qs⟩ | ⟨cj, gs⟩
    · obtain ⟨h1, h⟩ := b_and h
      obtain ⟨h2, h⟩ := b_and h
      obtain ⟨h3, h4⟩ := b_and h
      have h1 : t = t2 := by simpa using h1
      have h2 : n = n2 := by simpa using h2
      have h3 := of_decide_eq_true h3
      have h4 := of_decide_eq_true h4
      subst h1 h2
      obtain ⟨l, e, hl, -⟩ := q
      exact ⟨l, e, hl, fun z _ => ⟨by rw [h3]; exact i32_ge z, by rw [h4]; exact i32_le z⟩⟩
    · cases h
    · cases h
  · rcases d with ⟨t2, n2, lo2, hi2, fz2⟩ | ⟨t2, qs⟩ | ⟨cj, gs⟩
    · cases h
    · obtain ⟨-, h⟩ := b_and h
      obtain ⟨h2, h3⟩ := b_and h
      have h2 : t = t2 := by simpa using h2
      have h3 : rs = qs := by simpa using h3
      subst h2 h3
      exact q
    · cases h
  · rcases d with ⟨t2, n2, lo2, hi2, fz2⟩ | ⟨t2, qs⟩ | ⟨cj, gs⟩
    · cases h
    · cases h
    · obtain ⟨h1, h⟩ := b_and h
      obtain ⟨h2, h3⟩ := b_and h
      have h1 : ci = cj := by simpa using h1
      have h2 : fs.length = gs.length := by simpa using h2
      subst h1
      obtain ⟨vs, e, hl, hb⟩ := q
      refine ⟨vs, e, hl.trans h2, fun k g hg => ?_⟩
      have hk : k < gs.length := (List.getElem?_eq_some_iff.mp hg).1
      have w := List.all_eq_true.mp h3 k (List.mem_range.mpr hk)
      have hf : fs[k]? = some fs[k] := List.getElem?_eq_getElem (by omega)
      have w : (match fs[k]?, gs[k]? with | some f, some g => wkF f g | _, _ => false) = true := w
      rw [hf, hg] at w
      obtain ⟨v, hv, gv⟩ := hb k _ hf
      exact ⟨v, hv, wkF_ok w gv⟩
theorem wk_c : (List.range 123).all (fun a => match HCs[a]?, HU[a]? with | some c, some d => wkC c d | _, _ => false) = true := by decide +kernel
theorem wk_m : (List.range 30).all (fun a => match HMs[123 + a]?, HU[123 + a]? with | some c, some d => wkC c d | _, _ => false) = true := by decide +kernel
theorem hu_of {h : MH} (c : gH HCs h) (m : gH HMs h) : gH HU h := by
  refine ⟨by rw [HU_len, ← c.1, HCs_len], fun a d hd => ?_⟩
  have ha : a < 153 := by
    have := (List.getElem?_eq_some_iff.mp hd).1
    rw [HU_len] at this
    exact this
  by_cases q : a < 123
  · have w := List.all_eq_true.mp wk_c a (List.mem_range.mpr q)
    have w : (match HCs[a]?, HU[a]? with | some c, some d => wkC c d | _, _ => false) = true := w
    rw [hd] at w
    cases hc : HCs[a]? with
    | none => rw [hc] at w; cases w
    | some c0 =>
      rw [hc] at w
      obtain ⟨x, hx, gx⟩ := c.2 a c0 hc
      exact ⟨x, hx, wkC_ok w gx⟩
  · obtain ⟨b, rfl⟩ : ∃ b, a = 123 + b := ⟨a - 123, by omega⟩
    have w := List.all_eq_true.mp wk_m b (List.mem_range.mpr (by omega))
    have w : (match HMs[123 + b]?, HU[123 + b]? with | some c, some d => wkC c d | _, _ => false) = true := w
    rw [hd] at w
    cases hc : HMs[123 + b]? with
    | none => rw [hc] at w; cases w
    | some c0 =>
      rw [hc] at w
      obtain ⟨x, hx, gx⟩ := m.2 _ c0 hc
      exact ⟨x, hx, wkC_ok w gx⟩
/-- ranges, told of the ints -/
theorem rg_f {H : AH} {h : MH} {ci k a : Nat} {lo hi : Int} {fz : Bool} (g : gH H h) (hf : a_fd H ci k a = some (.inr (lo, hi, fz))) : lo ≤ (cI h a k).toInt ∧ (cI h a k).toInt ≤ hi := by
  obtain ⟨fs, vs, v, -, -, hx, -, hv, ⟨x, rfl, x1, x2⟩, -⟩ := fd_sp g hf
  have e : cI h a k = x := by unfold cI; rw [hx]; dsimp only; rw [hv]
  rw [e]
  exact ⟨x1, x2⟩
theorem rg_a {H : AH} {h : MH} {t n a j : Nat} {lo hi : Int} {fz : Bool} (g : gH H h) (hf : H[a]? = some (.inl (t, n, lo, hi, fz))) (hj : j < n) : lo ≤ (cI h a j).toInt ∧ (cI h a j).toInt ≤ hi := by
  obtain ⟨l, hx, hl, he, x1, x2⟩ := aI_sp g hf hj
  have e : cI h a j = aI h a j := by rw [cI_arr hx]; exact he
  rw [e]
  exact ⟨x1, x2⟩
/-- a pair of calls by pure runs -/
theorem PairOK.up {T T' : Option Value → Option Value → Prop} {y1 y2 : Nat} {as : List Value} {h : MH} {M1 M2 : MM} {K : SG → Prop} {QX : Option Value → SG → Prop} {QY : Option Value → SG → Option Value → SG → Prop} (p : PairOK J1 T y1 y2 as h) (hJ : J1 h) (e1 : m_tab[y1]? = some M1) (e2 : m_tab[y2]? = some M2) (m1 : y1 ∈ msU) (m2 : y2 ∈ msU) (kx : UP M1 0 (m_ent (mx M1) (.ref 0 :: as)) [] (cI h) QX) (km : ∀ r s1, QX r s1 → UP M2 0 (m_ent (mx M2) (.ref 123 :: as)) [] s1 (QY r s1)) (hT : ∀ r s1 r2 h2, QX r s1 → QY r s1 r2 (cI h2) → T r r2 → J1 h2 → T' r r2 ∧ K (cI h2)) : PairOK (fun h => J1 h ∧ K (cI h)) T' y1 y2 as h := by
  obtain ⟨N1, N2, r, h1, r2, h2, a, b, c, d, e, f, ⟨n1, g⟩, ⟨n2, k⟩, t, q⟩ := p
  rw [e1] at a
  rw [e2] at b
  cases a
  cases b
  obtain ⟨u1, g1⟩ := usim n1 y1 M1 0 _ _ [] h r h1 m1 e1 (hu_of hJ.1 hJ.2.1) (lqL.rf _) g
  obtain ⟨u2, g2⟩ := usim n2 y2 M2 0 _ _ [] h1 r2 h2 m2 e2 g1 (lqL.rf _) k
  have x1 := kx n1 _ u1
  have x2 := km r (cI h1) x1 n2 _ u2
  obtain ⟨t', j'⟩ := hT r _ r2 h2 x1 x2 t q
  exact ⟨M1, M2, r, h1, r2, h2, e1, e2, c, d, e, f, ⟨n1, g⟩, ⟨n2, k⟩, t', q, j'⟩
end
section
/-! nothing runs over: pulls are 0 to 11 -/
theorem pby_b {so po mn : Int32} (h1 : 1 ≤ po.toInt) (h2 : po.toInt ≤ 9) : 0 ≤ (pby so po mn).toInt ∧ (pby so po mn).toInt ≤ 11 := by
  have e1 : (1 : Int32).toInt = 1 := by decide
  have e2 : (2 : Int32).toInt = 2 := by decide
  have a2 : (po + 2).toInt = po.toInt + 2 := (i32_add (by omega) (by omega)).trans (by omega)
  have a1 : (po + 1).toInt = po.toInt + 1 := (i32_add (by omega) (by omega)).trans (by omega)
  have s1 : (po - 1).toInt = po.toInt - 1 := (i32_sub (by omega) (by omega)).trans (by omega)
  unfold pby frs ltr
  cases m_cmp .ge mn 6
  · cases m_cmp .ne so 1
    · exact ⟨by show 0 ≤ (po + 2).toInt; omega, by show (po + 2).toInt ≤ 11; omega⟩
    · cases m_cmp .ne so 2
      · exact ⟨by show 0 ≤ (po - 1).toInt; omega, by show (po - 1).toInt ≤ 11; omega⟩
      · exact ⟨by show 0 ≤ po.toInt; omega, by show po.toInt ≤ 11; omega⟩
  · cases m_cmp .ne so 1
    · exact ⟨by show 0 ≤ (po - 1).toInt; omega, by show (po - 1).toInt ≤ 11; omega⟩
    · cases m_cmp .ne so 2
      · exact ⟨by show 0 ≤ (po + 1).toInt; omega, by show (po + 1).toInt ≤ 11; omega⟩
      · exact ⟨by show 0 ≤ po.toInt; omega, by show po.toInt ≤ 11; omega⟩
theorem lrs_b {J : TI} {t : Nat} {x : TS} (hp : ∀ k, k < jn J → 1 ≤ (jpo J k).toInt ∧ (jpo J k).toInt ≤ 9) (hn : jn J ≤ 8) : ∀ i, i ≤ jn J → 0 ≤ (lrs J t x i).1.toInt ∧ (lrs J t x i).1.toInt ≤ 11 * i ∧ 0 ≤ (lrs J t x i).2.toInt ∧ (lrs J t x i).2.toInt ≤ 11 * i := by
  intro i
  induction i with
  | zero => exact fun _ => (show 0 ≤ (0 : Int32).toInt ∧ (0 : Int32).toInt ≤ 11 * ((0 : Nat) : Int) ∧ 0 ≤ (0 : Int32).toInt ∧ (0 : Int32).toInt ≤ 11 * ((0 : Nat) : Int) from by decide)
  | succ i ih =>
    intro hi
    obtain ⟨a1, a2, a3, a4⟩ := ih (by omega)
    have e : lrs J t x (i + 1) = lstep J t x i (lrs J t x i) := itr_0 _ _ _
    have hb : 0 ≤ (pul J t x i).toInt ∧ (pul J t x i).toInt ≤ 11 := by
      unfold pul
      cases pon J t x i
      · exact (show 0 ≤ (0 : Int32).toInt ∧ (0 : Int32).toInt ≤ 11 from by decide)
      · exact pby_b (hp i (by omega)).1 (hp i (by omega)).2
    obtain ⟨b1, b2⟩ := hb
    have c1 : ((lrs J t x i).1 + pul J t x i).toInt = (lrs J t x i).1.toInt + (pul J t x i).toInt := i32_add (by omega) (by omega)
    have c2 : ((lrs J t x i).2 + pul J t x i).toInt = (lrs J t x i).2.toInt + (pul J t x i).toInt := i32_add (by omega) (by omega)
    rw [e]
    unfold lstep
    cases m_cmp .ne (jse J i - jse J i / 2 * 2) 0
    · show 0 ≤ ((lrs J t x i).1 + pul J t x i).toInt ∧ ((lrs J t x i).1 + pul J t x i).toInt ≤ 11 * ((i + 1 : Nat) : Int) ∧ 0 ≤ (lrs J t x i).2.toInt ∧ (lrs J t x i).2.toInt ≤ 11 * ((i + 1 : Nat) : Int)
      omega
    · show 0 ≤ (lrs J t x i).1.toInt ∧ (lrs J t x i).1.toInt ≤ 11 * ((i + 1 : Nat) : Int) ∧ 0 ≤ ((lrs J t x i).2 + pul J t x i).toInt ∧ ((lrs J t x i).2 + pul J t x i).toInt ≤ 11 * ((i + 1 : Nat) : Int)
      omega
theorem ovJ_of {J : TI} (hn : jn J ≤ 8) (hp : ∀ k, k < jn J → 1 ≤ (jpo J k).toInt ∧ (jpo J k).toInt ≤ 9) (hr : ∀ t, t < 24 → 0 ≤ (jra J t).toInt ∧ (jra J t).toInt ≤ 3) : ovJ J := by
  intro t ht
  obtain ⟨a1, a2, a3, a4⟩ := lrs_b (t := t) (x := trip J t) hp hn (jn J) (Nat.le_refl _)
  obtain ⟨r1, r2⟩ := hr t ht
  have d : ((lrs J t (trip J t) (jn J)).1 - (lrs J t (trip J t) (jn J)).2).toInt = (lrs J t (trip J t) (jn J)).1.toInt - (lrs J t (trip J t) (jn J)).2.toInt := i32_sub (by omega) (by omega)
  generalize (lrs J t (trip J t) (jn J)).1 - (lrs J t (trip J t) (jn J)).2 = y at *
  have hc : (jra J t).toInt = 0 ∨ (jra J t).toInt = 1 ∨ (jra J t).toInt = 2 ∨ (jra J t).toInt = 3 := by omega
  have m : (jra J t * y).toInt = (jra J t).toInt * y.toInt := by
    rcases hc with e | e | e | e
    · exact i32_mul (by rw [e]; omega) (by rw [e]; omega)
    · exact i32_mul (by rw [e]; omega) (by rw [e]; omega)
    · exact i32_mul (by rw [e]; omega) (by rw [e]; omega)
    · exact i32_mul (by rw [e]; omega) (by rw [e]; omega)
  rw [m]
  rcases hc with e | e | e | e
  · rw [e]; omega
  · rw [e]; omega
  · rw [e]; omega
  · rw [e]; omega
end
section
/-! rates and rudder: both sides read alike -/
theorem itx_l {α β : Type} (f : Nat → α → α ⊕ β) {lo n : Nat} {a x : α} (h : f lo a = .inl x) : itx f lo (n + 1) a = itx f (lo + 1) n x := by
  show (match f lo a with | .inl x => itx f (lo + 1) n x | .inr b => .inr (lo, b)) = _
  rw [h]
theorem itx_r {α β : Type} (f : Nat → α → α ⊕ β) {lo n : Nat} {a : α} {b : β} (h : f lo a = .inr b) : itx f lo (n + 1) a = .inr (lo, b) := by
  show (match f lo a with | .inl x => itx f (lo + 1) n x | .inr b => .inr (lo, b)) = _
  rw [h]
theorem itx_rel {β γ : Type} {f : Nat → Unit → Unit ⊕ β} {g : Nat → Unit → Unit ⊕ γ} {R : Nat → β → γ → Prop} (hi : Nat) (h : ∀ i, i < hi → (f i () = .inl () ∧ g i () = .inl ()) ∨ ∃ b c, f i () = .inr b ∧ g i () = .inr c ∧ R i b c) : ∀ (n lo : Nat), lo + n ≤ hi → (itx f lo n () = .inl () ∧ itx g lo n () = .inl () ∧ ∀ i, lo ≤ i → i < lo + n → f i () = .inl ()) ∨ ∃ i b c, lo ≤ i ∧ i < lo + n ∧ itx f lo n () = .inr (i, b) ∧ itx g lo n () = .inr (i, c) ∧ R i b c
  | 0, lo, _ => Or.inl ⟨rfl, rfl, fun i h1 h2 => absurd h2 (by omega)⟩
  | n + 1, lo, hl => by
    rcases h lo (by omega) with ⟨h1, h2⟩ | ⟨b, c, h1, h2, h3⟩
    · rw [itx_l f h1, itx_l g h2]
      rcases itx_rel hi h n (lo + 1) (by omega) with ⟨k1, k2, k3⟩ | ⟨i, b, c, k1, k2, k3, k4, k5⟩
      · refine Or.inl ⟨k1, k2, fun i a1 a2 => ?_⟩
        by_cases e : i = lo
        · rw [e]; exact h1
        · exact k3 i (by omega) (by omega)
      · exact Or.inr ⟨i, b, c, by omega, by omega, k3, k4, k5⟩
    · rw [itx_r f h1, itx_r g h2]
      exact Or.inr ⟨lo, b, c, by omega, by omega, rfl, rfl, h3⟩
theorem idx24 {k j : Nat} (hk : k ≤ 2) (hj : j < 24) : ((24 * Int32.ofNat k) + Int32.ofNat j).toNatClampNeg = 24 * k + j := by
  rw [show (24 * Int32.ofNat k) + Int32.ofNat j = Int32.ofNat (24 * k + j) from ofn_add (ofn_mul rfl rfl) rfl]
  exact Int32.toNatClampNeg_ofNat_of_lt (by omega)
/-- the second text is alike on both sides -/
def tx1 (s : SG) : Prop := s 111 1 = s 124 1 ∧ (s 124 1).toNatClampNeg ≤ 24 ∧ ∀ k, k < (s 124 1).toNatClampNeg → s 112 k = s 125 (24 + k)
theorem fl5 (s : SG) : ∀ i, i ≤ 24 → (∀ k, k < i → itr B_readsRates_5 0 i (uset s 123 5 0) 128 k = 2) ∧ ∀ b j, b ≠ 128 → itr B_readsRates_5 0 i (uset s 123 5 0) b j = uset s 123 5 0 b j := by
  intro i
  induction i with
  | zero => exact fun _ => ⟨fun k hk => absurd hk (by omega), fun b j _ => rfl⟩
  | succ i ih =>
    intro hi
    obtain ⟨h1, h2⟩ := ih (by omega)
    rw [itr_0]
    generalize itr B_readsRates_5 0 i (uset s 123 5 0) = a at *
    have e : B_readsRates_5 i a = uset a 128 i 2 := rfl
    rw [e]
    refine ⟨fun k hk => ?_, fun b j hb => ?_⟩
    · by_cases q : k = i
      · rw [q]; exact uset_eq _ _ _ _
      · rw [uset_nj q]; exact h1 k (by omega)
    · rw [uset_na hb]; exact h2 b j hb
def fitRb (b : Int32) : Bool := bif m_cmp .lt b 48 then false else !(m_cmp .gt b 51)
def fitDb (b : Int32) : Bool := bif m_cmp .eq b 108 then true else (bif m_cmp .eq b 114 then true else !(m_cmp .ne b 45))
def flf (fit : Int32 → Bool) (b : NI) (i : Nat) (_ : Unit) : Unit ⊕ Int32 := bif fit (b i) then .inl () else .inr (Int32.ofNat i)
/-- the fault of a text of signs -/
def flt (fit : Int32 → Bool) (len : Int32) (b : NI) : Int32 := Sum.elim (fun _ : Unit => -1) (fun x : Nat × Int32 => x.2) (itx (flf fit b) 0 len.toNatClampNeg ())
theorem flt_cases (fit : Int32 → Bool) (len : Int32) (b : NI) : (itx (flf fit b) 0 len.toNatClampNeg () = .inl () ∧ flt fit len b = -1 ∧ ∀ i, i < len.toNatClampNeg → fit (b i) = true) ∨ ∃ i, i < len.toNatClampNeg ∧ itx (flf fit b) 0 len.toNatClampNeg () = .inr (i, Int32.ofNat i) ∧ flt fit len b = Int32.ofNat i := by
  have h := itx_rel (f := flf fit b) (g := flf fit b) (R := fun i x y => x = Int32.ofNat i ∧ y = x) len.toNatClampNeg (fun i _ => by
    unfold flf
    cases fit (b i)
    · exact Or.inr ⟨_, _, rfl, rfl, rfl, rfl⟩
    · exact Or.inl ⟨rfl, rfl⟩) len.toNatClampNeg 0 (by omega)
  rcases h with ⟨h1, -, h3⟩ | ⟨i, x, y, h1, h2, h3, -, rfl, -⟩
  · refine Or.inl ⟨h1, by unfold flt; rw [h1]; rfl, fun i hi => ?_⟩
    have h := h3 i (by omega) (by omega)
    unfold flf at h
    cases q : fit (b i) with
    | true => rfl
    | false => rw [q] at h; cases h
  · exact Or.inr ⟨i, by omega, h3, by unfold flt; rw [h3]; rfl⟩
theorem flt_cong {fit : Int32 → Bool} {len : Int32} {b c : NI} (h : ∀ i, i < len.toNatClampNeg → b i = c i) : flt fit len b = flt fit len c := by
  have k := itx_rel (f := flf fit b) (g := flf fit c) (R := fun _ x y => x = y) len.toNatClampNeg (fun i hi => by
    unfold flf
    rw [h i hi]
    cases fit (c i)
    · exact Or.inr ⟨_, _, rfl, rfl, rfl⟩
    · exact Or.inl ⟨rfl, rfl⟩) len.toNatClampNeg 0 (by omega)
  unfold flt
  rcases k with ⟨h1, h2, -⟩ | ⟨i, x, y, -, -, h3, h4, rfl⟩
  · rw [h1, h2]
  · rw [h3, h4]
theorem sf1 (s : SG) : F_signFault_1 s = flt fitRb (s 111 1) (s 112) := by
  have e : B_signFault_1_2 s = flf fitRb (s 112) := by
    funext i a
    unfold B_signFault_1_2 flf fitRb
    dsimp only
    cases m_cmp .lt (s 112 i) 48
    · cases m_cmp .gt (s 112 i) 51 <;> rfl
    · rfl
  unfold F_signFault_1 flt
  rw [e]
theorem sf2 (s : SG) : F_signFault_2 s = flt fitDb (s 113 1) (s 114) := by
  have e : B_signFault_2_2 s = flf fitDb (s 114) := by
    funext i a
    unfold B_signFault_2_2 flf fitDb
    dsimp only
    cases m_cmp .eq (s 114 i) 108
    · cases m_cmp .eq (s 114 i) 114
      · cases m_cmp .ne (s 114 i) 45 <;> rfl
      · rfl
    · rfl
  unfold F_signFault_2 flt
  rw [e]
def manyS (fit : Int32 → Bool) (len : Int32) (b : NI) : Int32 := bif m_cmp .ne (flt fit len b) (-1) then 0 else len
def ratS (len : Int32) (b : NI) (t : Nat) : Int32 := bif m_cmp .ge (Int32.ofNat t) (manyS fitRb len b) then 2 else b t - 48
def rudV (b : Int32) : Int32 := bif m_cmp .ne b 108 then (bif m_cmp .ne b 114 then 0 else 2) else 1
def rudS (len : Int32) (b : NI) (t : Nat) : Int32 := rudV (bif m_cmp .ge (Int32.ofNat t) (manyS fitDb len b) then 45 else b t)
theorem tkR (s : SG) : ∀ t, t < 24 → F_takeRates s 13 t = ratS (s 111 1) (s 112) t := by
  have key : ∀ i, i ≤ 24 → Fr W_takeRates s (itr (B_takeRates_12 (manyS fitRb (s 111 1) (s 112))) 0 i s) ∧ ∀ k, k < i → itr (B_takeRates_12 (manyS fitRb (s 111 1) (s 112))) 0 i s 13 k = ratS (s 111 1) (s 112) k := by
    intro i
    induction i with
    | zero => exact fun _ => ⟨Fr.rf _ _, fun k hk => absurd hk (by omega)⟩
    | succ i ih =>
      intro hi
      obtain ⟨f, e⟩ := ih (by omega)
      rw [itr_0]
      generalize itr (B_takeRates_12 (manyS fitRb (s 111 1) (s 112))) 0 i s = a at f e
      refine ⟨f.tr (fr_B_takeRates_12 _ i a (by omega)), fun k hk => ?_⟩
      have hB : B_takeRates_12 (manyS fitRb (s 111 1) (s 112)) i a = uset a 13 i (bif m_cmp .ge (Int32.ofNat i) (manyS fitRb (s 111 1) (s 112)) then (2 : Int32) else a 112 i - 48) := rfl
      rw [hB, f 112 i rfl]
      by_cases q : k = i
      · rw [q, uset_eq]; rfl
      · rw [uset_nj q]; exact e k (by omega)
  intro t ht
  have h := (key 24 (Nat.le_refl _)).2 t ht
  have e : F_takeRates s = itr (B_takeRates_12 (manyS fitRb (s 111 1) (s 112))) 0 24 s := by
    unfold F_takeRates manyS
    rw [sf1]
  rw [e]
  exact h
theorem tkD (s : SG) : ∀ t, t < 24 → F_takeRudder s 14 t = rudS (s 113 1) (s 114) t := by
  have key : ∀ i, i ≤ 24 → Fr W_takeRudder s (itr (B_takeRudder_12 (manyS fitDb (s 113 1) (s 114))) 0 i s) ∧ ∀ k, k < i → itr (B_takeRudder_12 (manyS fitDb (s 113 1) (s 114))) 0 i s 14 k = rudS (s 113 1) (s 114) k := by
    intro i
    induction i with
    | zero => exact fun _ => ⟨Fr.rf _ _, fun k hk => absurd hk (by omega)⟩
    | succ i ih =>
      intro hi
      obtain ⟨f, e⟩ := ih (by omega)
      rw [itr_0]
      generalize itr (B_takeRudder_12 (manyS fitDb (s 113 1) (s 114))) 0 i s = a at f e
      refine ⟨f.tr (fr_B_takeRudder_12 _ i a (by omega)), fun k hk => ?_⟩
      have hB : B_takeRudder_12 (manyS fitDb (s 113 1) (s 114)) i a = uset a 14 i (rudV (bif m_cmp .ge (Int32.ofNat i) (manyS fitDb (s 113 1) (s 114)) then (45 : Int32) else a 114 i)) := rfl
      rw [hB, f 114 i rfl]
      by_cases q : k = i
      · rw [q, uset_eq]; rfl
      · rw [uset_nj q]; exact e k (by omega)
  intro t ht
  have h := (key 24 (Nat.le_refl _)).2 t ht
  have e : F_takeRudder s = itr (B_takeRudder_12 (manyS fitDb (s 113 1) (s 114))) 0 24 s := by
    unfold F_takeRudder manyS
    rw [sf2]
  rw [e]
  exact h
end
section
/-! the model reads rates and rudder (printed by wip/u/mk_rd.py) -/
theorem ne24 : ∀ i, i < 24 → m_cmp .ne (Int32.ofNat i) (-1) = true := by decide
theorem ge24 : ∀ i, i < 24 → m_cmp .ge (Int32.ofNat i) 0 = true := by decide
theorem inR (s : SG) (b : Int32) : m_cmp .ne (F_in s b 48 51) 0 = fitRb b := by
  unfold F_in fitRb
  dsimp only
  cases m_cmp .lt b 48
  · cases m_cmp .gt b 51 <;> rfl
  · rfl
def rdV (b : Int32) : Int32 := bif m_cmp .ne b 45 then (bif m_cmp .ne b 108 then (bif m_cmp .ne b 114 then (-1 : Int32) else (2 : Int32)) else (1 : Int32)) else (0 : Int32)
theorem eq_ne (x y : Int32) : m_cmp .eq x y = !(m_cmp .ne x y) := by
  show decide (x = y) = !(decide (¬ x = y))
  by_cases e : x = y
  · rw [decide_eq_true e, decide_eq_false (fun q => q e)]; rfl
  · rw [decide_eq_false e, decide_eq_true e]; rfl
theorem inD (s : SG) (b : Int32) : m_cmp .ne (F_rudderBy s b) (-1) = fitDb b := by
  show m_cmp .ne (rdV b) (-1) = _
  unfold rdV fitDb
  rw [eq_ne, eq_ne]
  cases m_cmp .ne b 45
  · cases m_cmp .ne b 108
    · rfl
    · cases m_cmp .ne b 114 <;> rfl
  · cases m_cmp .ne b 108
    · rfl
    · cases m_cmp .ne b 114 <;> rfl
theorem rdV_rud {b : Int32} (h : fitDb b = true) : rdV b = rudV b := by
  unfold rdV rudV
  unfold fitDb at h
  rw [eq_ne, eq_ne] at h
  cases h1 : m_cmp .ne b 45 with
  | true =>
    rw [h1] at h
    cases h2 : m_cmp .ne b 108 with
    | true =>
      rw [h2] at h
      cases h3 : m_cmp .ne b 114 with
      | true => rw [h3] at h; cases h
      | false => rfl
    | false => rfl
  | false =>
    have e : b = 45 := Decidable.of_not_not (m_ff m_ne_iff h1)
    subst e
    rfl
def vR (b : Int32) : Int32 := b - 48
theorem tx_by_R {s : SG} {j : Nat} (h : j < (s 124 1).toNatClampNeg) (h2 : (s 124 1).toNatClampNeg ≤ 24) : F_byteAt_1 s (Int32.ofNat j) = s 125 (24 * 1 + j) := by
  unfold F_byteAt_1
  dsimp only
  rw [ge_F h]
  show s 125 ((24 * 1) + Int32.ofNat j).toNatClampNeg = _
  rw [show ((24 * 1 : Int32) + Int32.ofNat j).toNatClampNeg = 24 * 1 + j from idx24 (k := 1) (by decide) (by omega)]
theorem fl_R (s : SG) : ∀ i, i ≤ 24 → (∀ k, k < i → itr B_readsRates_5 0 i (uset s 123 5 0) 128 k = 2) ∧ ∀ b j, b ≠ 128 → itr B_readsRates_5 0 i (uset s 123 5 0) b j = uset s 123 5 0 b j := by
  intro i
  induction i with
  | zero => exact fun _ => ⟨fun k hk => absurd hk (by omega), fun b j _ => rfl⟩
  | succ i ih =>
    intro hi
    obtain ⟨h1, h2⟩ := ih (by omega)
    rw [itr_0]
    generalize itr B_readsRates_5 0 i (uset s 123 5 0) = a at *
    have e : B_readsRates_5 i a = uset a 128 i 2 := rfl
    rw [e]
    refine ⟨fun k hk => ?_, fun b j hb => ?_⟩
    · by_cases q : k = i
      · rw [q]; exact uset_eq _ _ _ _
      · rw [uset_nj q]; exact h1 k (by omega)
    · rw [uset_na hb]; exact h2 b j hb
theorem st_R {z : SG} (hl : (z 124 1).toNatClampNeg ≤ 24) (h0 : ∀ k, k < 24 → z 128 k = 2) : ∀ i, i ≤ (z 124 1).toNatClampNeg → (∀ k, k < 24 → itr B_readsRates_37 0 i z 128 k = if k < i then vR (z 125 (24 * 1 + k)) else 2) ∧ ∀ b j, b ≠ 128 → itr B_readsRates_37 0 i z b j = z b j := by
  intro i
  induction i with
  | zero => exact fun _ => ⟨fun k hk => by rw [if_neg (by omega)]; exact h0 k hk, fun b j _ => rfl⟩
  | succ i ih =>
    intro hi
    obtain ⟨h1, h2⟩ := ih (by omega)
    rw [itr_0]
    generalize itr B_readsRates_37 0 i z = a at *
    have e : B_readsRates_37 i a = uset a 128 i (F_byteAt_1 a (Int32.ofNat i) - 48) := rfl
    have e124 : a 124 1 = z 124 1 := h2 124 1 (by decide)
    rw [e, tx_by_R (by rw [e124]; omega) (by rw [e124]; exact hl), h2 125 _ (by decide)]
    refine ⟨fun k hk => ?_, fun b j hb => ?_⟩
    · by_cases q : k = i
      · rw [q, uset_eq, if_pos (by omega)]; rfl
      · rw [uset_nj q, h1 k hk]
        by_cases q2 : k < i
        · rw [if_pos q2, if_pos (by omega)]
        · rw [if_neg q2, if_neg (by omega)]
    · rw [uset_na hb]; exact h2 b j hb
theorem rd_R {s : SG} (hl : (s 124 1).toNatClampNeg ≤ 24) : (F_readsRates s).1 = flt fitRb (s 124 1) (fun k => s 125 (24 * 1 + k)) ∧ (F_readsRates s).2 123 5 = manyS fitRb (s 124 1) (fun k => s 125 (24 * 1 + k)) ∧ ∀ t, t < 24 → (F_readsRates s).2 128 t = ratS (s 124 1) (fun k => s 125 (24 * 1 + k)) t := by
  obtain ⟨a1, a2⟩ := fl_R s 24 (Nat.le_refl _)
  have eF : F_readsRates s = Sum.elim (fun _ : Unit => ((-1 : Int32), uset (itr B_readsRates_37 0 (itr B_readsRates_5 0 24 (uset s 123 5 0) 124 1).toNatClampNeg (itr B_readsRates_5 0 24 (uset s 123 5 0))) 123 5 (itr B_readsRates_37 0 (itr B_readsRates_5 0 24 (uset s 123 5 0) 124 1).toNatClampNeg (itr B_readsRates_5 0 24 (uset s 123 5 0)) 124 1))) (fun x : Nat × (Int32 × SG) => x.2) (itx (B_readsRates_17 (itr B_readsRates_5 0 24 (uset s 123 5 0))) 0 (itr B_readsRates_5 0 24 (uset s 123 5 0) 124 1).toNatClampNeg ()) := rfl
  rw [eF]
  generalize itr B_readsRates_5 0 24 (uset s 123 5 0) = z at *
  have e124 : z 124 1 = s 124 1 := a2 124 1 (by decide)
  have e125 : ∀ j, z 125 j = s 125 j := fun j => a2 125 j (by decide)
  have e5 : z 123 5 = 0 := a2 123 5 (by decide)
  have rel := itx_rel (f := flf fitRb (fun k => s 125 (24 * 1 + k))) (g := B_readsRates_17 z) (R := fun _ x y => y = (x, z)) (s 124 1).toNatClampNeg (fun i hi => by
    unfold flf B_readsRates_17
    rw [tx_by_R (by rw [e124]; exact hi) (by rw [e124]; exact hl), e125, inR]
    cases fitRb (s 125 (24 * 1 + i))
    · exact Or.inr ⟨_, _, rfl, rfl, rfl⟩
    · exact Or.inl ⟨rfl, rfl⟩) (s 124 1).toNatClampNeg 0 (by omega)
  rw [e124]
  unfold ratS manyS flt
  rcases rel with ⟨h1, h2, -⟩ | ⟨i, x, y, -, hi, h3, h4, rfl⟩
  · rw [h1, h2]
    obtain ⟨b1, b2⟩ := st_R (z := z) (by rw [e124]; exact hl) a1 (z 124 1).toNatClampNeg (Nat.le_refl _)
    rw [e124] at b1 b2
    refine ⟨rfl, ?_, fun t ht => ?_⟩
    · show itr B_readsRates_37 0 (s 124 1).toNatClampNeg z 124 1 = _
      rw [b2 124 1 (by decide), e124]
      rfl
    · show itr B_readsRates_37 0 (s 124 1).toNatClampNeg z 128 t = bif m_cmp .ge (Int32.ofNat t) (s 124 1) then 2 else s 125 (24 * 1 + t) - 48
      rw [b1 t ht, e125]
      by_cases q : t < (s 124 1).toNatClampNeg
      · rw [if_pos q, ge_F q]
        rfl
      · rw [if_neg q, show m_cmp .ge (Int32.ofNat t) (s 124 1) = true from m_ge_iff.mpr (by rw [ofn_int (by omega)]; have q : ¬ t < (s 124 1).toInt.toNat := q; omega)]
        rfl
  · rw [h3, h4]
    have hx : x = Int32.ofNat i := by
      rcases flt_cases fitRb (s 124 1) (fun k => s 125 (24 * 1 + k)) with ⟨k1, -, -⟩ | ⟨j, -, k2, -⟩
      · rw [k1] at h3; cases h3
      · rw [k2] at h3; cases h3; rfl
    subst hx
    have hne := ne24 i (by omega)
    refine ⟨rfl, ?_, fun t ht => ?_⟩
    · show z 123 5 = (bif m_cmp .ne (Int32.ofNat i) (-1) then 0 else _)
      rw [hne, e5]
      rfl
    · show z 128 t = bif m_cmp .ge (Int32.ofNat t) (bif m_cmp .ne (Int32.ofNat i) (-1) then (0 : Int32) else s 124 1) then 2 else s 125 (24 * 1 + t) - 48
      rw [hne, a1 t ht]
      show 2 = bif m_cmp .ge (Int32.ofNat t) (0 : Int32) then 2 else s 125 (24 * 1 + t) - 48
      rw [ge24 t ht]
      rfl
theorem tx_by_D {s : SG} {j : Nat} (h : j < (s 124 2).toNatClampNeg) (h2 : (s 124 2).toNatClampNeg ≤ 24) : F_byteAt_2 s (Int32.ofNat j) = s 125 (24 * 2 + j) := by
  unfold F_byteAt_2
  dsimp only
  rw [ge_F h]
  show s 125 ((24 * 2) + Int32.ofNat j).toNatClampNeg = _
  rw [show ((24 * 2 : Int32) + Int32.ofNat j).toNatClampNeg = 24 * 2 + j from idx24 (k := 2) (by decide) (by omega)]
theorem fl_D (s : SG) : ∀ i, i ≤ 24 → (∀ k, k < i → itr B_readsRudder_5 0 i (uset s 123 7 0) 129 k = 0) ∧ ∀ b j, b ≠ 129 → itr B_readsRudder_5 0 i (uset s 123 7 0) b j = uset s 123 7 0 b j := by
  intro i
  induction i with
  | zero => exact fun _ => ⟨fun k hk => absurd hk (by omega), fun b j _ => rfl⟩
  | succ i ih =>
    intro hi
    obtain ⟨h1, h2⟩ := ih (by omega)
    rw [itr_0]
    generalize itr B_readsRudder_5 0 i (uset s 123 7 0) = a at *
    have e : B_readsRudder_5 i a = uset a 129 i 0 := rfl
    rw [e]
    refine ⟨fun k hk => ?_, fun b j hb => ?_⟩
    · by_cases q : k = i
      · rw [q]; exact uset_eq _ _ _ _
      · rw [uset_nj q]; exact h1 k (by omega)
    · rw [uset_na hb]; exact h2 b j hb
theorem st_D {z : SG} (hl : (z 124 2).toNatClampNeg ≤ 24) (h0 : ∀ k, k < 24 → z 129 k = 0) : ∀ i, i ≤ (z 124 2).toNatClampNeg → (∀ k, k < 24 → itr B_readsRudder_36 0 i z 129 k = if k < i then rdV (z 125 (24 * 2 + k)) else 0) ∧ ∀ b j, b ≠ 129 → itr B_readsRudder_36 0 i z b j = z b j := by
  intro i
  induction i with
  | zero => exact fun _ => ⟨fun k hk => by rw [if_neg (by omega)]; exact h0 k hk, fun b j _ => rfl⟩
  | succ i ih =>
    intro hi
    obtain ⟨h1, h2⟩ := ih (by omega)
    rw [itr_0]
    generalize itr B_readsRudder_36 0 i z = a at *
    have e : B_readsRudder_36 i a = uset a 129 i (rdV (F_byteAt_2 a (Int32.ofNat i))) := rfl
    have e124 : a 124 2 = z 124 2 := h2 124 2 (by decide)
    rw [e, tx_by_D (by rw [e124]; omega) (by rw [e124]; exact hl), h2 125 _ (by decide)]
    refine ⟨fun k hk => ?_, fun b j hb => ?_⟩
    · by_cases q : k = i
      · rw [q, uset_eq, if_pos (by omega)]
      · rw [uset_nj q, h1 k hk]
        by_cases q2 : k < i
        · rw [if_pos q2, if_pos (by omega)]
        · rw [if_neg q2, if_neg (by omega)]
    · rw [uset_na hb]; exact h2 b j hb
theorem rd_D {s : SG} (hl : (s 124 2).toNatClampNeg ≤ 24) : (F_readsRudder s).1 = flt fitDb (s 124 2) (fun k => s 125 (24 * 2 + k)) ∧ (F_readsRudder s).2 123 7 = manyS fitDb (s 124 2) (fun k => s 125 (24 * 2 + k)) ∧ ∀ t, t < 24 → (F_readsRudder s).2 129 t = rudS (s 124 2) (fun k => s 125 (24 * 2 + k)) t := by
  obtain ⟨a1, a2⟩ := fl_D s 24 (Nat.le_refl _)
  have eF : F_readsRudder s = Sum.elim (fun _ : Unit => ((-1 : Int32), uset (itr B_readsRudder_36 0 (itr B_readsRudder_5 0 24 (uset s 123 7 0) 124 2).toNatClampNeg (itr B_readsRudder_5 0 24 (uset s 123 7 0))) 123 7 (itr B_readsRudder_36 0 (itr B_readsRudder_5 0 24 (uset s 123 7 0) 124 2).toNatClampNeg (itr B_readsRudder_5 0 24 (uset s 123 7 0)) 124 2))) (fun x : Nat × (Int32 × SG) => x.2) (itx (B_readsRudder_17 (itr B_readsRudder_5 0 24 (uset s 123 7 0))) 0 (itr B_readsRudder_5 0 24 (uset s 123 7 0) 124 2).toNatClampNeg ()) := rfl
  rw [eF]
  generalize itr B_readsRudder_5 0 24 (uset s 123 7 0) = z at *
  have e124 : z 124 2 = s 124 2 := a2 124 2 (by decide)
  have e125 : ∀ j, z 125 j = s 125 j := fun j => a2 125 j (by decide)
  have e5 : z 123 7 = 0 := a2 123 7 (by decide)
  have rel := itx_rel (f := flf fitDb (fun k => s 125 (24 * 2 + k))) (g := B_readsRudder_17 z) (R := fun _ x y => y = (x, z)) (s 124 2).toNatClampNeg (fun i hi => by
    unfold flf B_readsRudder_17
    rw [tx_by_D (by rw [e124]; exact hi) (by rw [e124]; exact hl), e125, inD]
    cases fitDb (s 125 (24 * 2 + i))
    · exact Or.inr ⟨_, _, rfl, rfl, rfl⟩
    · exact Or.inl ⟨rfl, rfl⟩) (s 124 2).toNatClampNeg 0 (by omega)
  rw [e124]
  unfold rudS manyS flt
  rcases rel with ⟨h1, h2, -⟩ | ⟨i, x, y, -, hi, h3, h4, rfl⟩
  · rw [h1, h2]
    obtain ⟨b1, b2⟩ := st_D (z := z) (by rw [e124]; exact hl) a1 (z 124 2).toNatClampNeg (Nat.le_refl _)
    rw [e124] at b1 b2
    refine ⟨rfl, ?_, fun t ht => ?_⟩
    · show itr B_readsRudder_36 0 (s 124 2).toNatClampNeg z 124 2 = _
      rw [b2 124 2 (by decide), e124]
      rfl
    · show itr B_readsRudder_36 0 (s 124 2).toNatClampNeg z 129 t = rudV (bif m_cmp .ge (Int32.ofNat t) (s 124 2) then 45 else s 125 (24 * 2 + t))
      rw [b1 t ht, e125]
      by_cases q : t < (s 124 2).toNatClampNeg
      · rw [if_pos q, ge_F q]
        rcases flt_cases fitDb (s 124 2) (fun k => s 125 (24 * 2 + k)) with ⟨-, -, k3⟩ | ⟨j, -, k2, -⟩
        · exact rdV_rud (k3 t q)
        · rw [k2] at h1; cases h1
      · rw [if_neg q, show m_cmp .ge (Int32.ofNat t) (s 124 2) = true from m_ge_iff.mpr (by rw [ofn_int (by omega)]; have q : ¬ t < (s 124 2).toInt.toNat := q; omega)]
        rfl
  · rw [h3, h4]
    have hx : x = Int32.ofNat i := by
      rcases flt_cases fitDb (s 124 2) (fun k => s 125 (24 * 2 + k)) with ⟨k1, -, -⟩ | ⟨j, -, k2, -⟩
      · rw [k1] at h3; cases h3
      · rw [k2] at h3; cases h3; rfl
    subst hx
    have hne := ne24 i (by omega)
    refine ⟨rfl, ?_, fun t ht => ?_⟩
    · show z 123 7 = (bif m_cmp .ne (Int32.ofNat i) (-1) then 0 else _)
      rw [hne, e5]
      rfl
    · show z 129 t = rudV (bif m_cmp .ge (Int32.ofNat t) (bif m_cmp .ne (Int32.ofNat i) (-1) then (0 : Int32) else s 124 2) then 45 else s 125 (24 * 2 + t))
      rw [hne, a1 t ht]
      show 0 = rudV (bif m_cmp .ge (Int32.ofNat t) (0 : Int32) then 45 else s 125 (24 * 2 + t))
      rw [ge24 t ht]
      rfl
end
section
/-! the crew: what a text of rowers says -/
def fitCb (i : Nat) (b : Int32) : Bool := if i % 3 = 0 then (bif m_cmp .eq b 115 then true else (bif m_cmp .eq b 102 then true else m_cmp .eq b 108)) else if i % 3 = 1 then (bif m_cmp .lt b 49 then false else !(m_cmp .gt b 57)) else m_cmp .eq b 59
/-- the fault of it -/
def CrS (L : Nat) (b : NI) (x : Int32) : Prop := (∃ i, i < L ∧ (∀ j, j < i → fitCb j (b j) = true) ∧ fitCb i (b i) = false ∧ x = Int32.ofNat i) ∨ ((∀ j, j < L → fitCb j (b j) = true) ∧ x = if L = 0 ∨ L % 3 = 2 then -1 else Int32.ofNat L)
theorem CrS.uniq {L : Nat} {b : NI} {x y : Int32} (h1 : CrS L b x) (h2 : CrS L b y) : x = y := by
  rcases h1 with ⟨i, i1, i2, i3, rfl⟩ | ⟨i1, rfl⟩
  · rcases h2 with ⟨j, j1, j2, j3, rfl⟩ | ⟨j1, rfl⟩
    · have e : i = j := by
        rcases Nat.lt_trichotomy i j with q | q | q
        · have := j2 i q
          rw [i3] at this
          cases this
        · exact q
        · have := i2 j q
          rw [j3] at this
          cases this
      rw [e]
    · have := j1 i i1
      rw [i3] at this
      cases this
  · rcases h2 with ⟨j, j1, j2, j3, rfl⟩ | ⟨j1, rfl⟩
    · have := i1 j j1
      rw [j3] at this
      cases this
    · rfl
theorem CrS.cong {L : Nat} {b c : NI} {x : Int32} (h : CrS L b x) (e : ∀ j, j < L → b j = c j) : CrS L c x := by
  rcases h with ⟨i, i1, i2, i3, rfl⟩ | ⟨i1, rfl⟩
  · exact Or.inl ⟨i, i1, fun j hj => by rw [← e j (by omega)]; exact i2 j hj, by rw [← e i i1]; exact i3, rfl⟩
  · exact Or.inr ⟨fun j hj => by rw [← e j hj]; exact i1 j hj, rfl⟩
theorem m3 : ∀ i, i < 24 → Int32.ofNat i - Int32.ofNat i / 3 * 3 = Int32.ofNat (i % 3) := by decide
theorem l23 : ∀ L, L < 24 → (bif m_cmp .eq (Int32.ofNat L) 0 then (-1 : Int32) else (bif m_cmp .ne (Int32.ofNat (L % 3)) 2 then Int32.ofNat L else (-1 : Int32))) = if L = 0 ∨ L % 3 = 2 then -1 else Int32.ofNat L := by decide
theorem eq_ne0 (b : Bool) : m_cmp .ne (bif b then (1 : Int32) else (0 : Int32)) 0 = b := by cases b <;> rfl
theorem fitsC (s : SG) (i : Nat) (hi : i < 24) (b : Int32) : m_cmp .ne (F_fitsCrew s (Int32.ofNat i - Int32.ofNat i / 3 * 3) b) 0 = fitCb i b := by
  rw [m3 i hi]
  unfold fitCb
  have h3 : i % 3 = 0 ∨ i % 3 = 1 ∨ i % 3 = 2 := by omega
  rcases h3 with e | e | e
  · rw [e, if_pos rfl]
    show m_cmp .ne (bif m_cmp .eq b 115 then (1 : Int32) else (bif m_cmp .eq b 102 then (1 : Int32) else (bif m_cmp .ne b 108 then (0 : Int32) else (1 : Int32)))) 0 = _
    rw [eq_ne b 108]
    cases m_cmp .eq b 115
    · cases m_cmp .eq b 102
      · cases m_cmp .ne b 108 <;> rfl
      · rfl
    · rfl
  · rw [e, if_neg (by decide), if_pos rfl]
    show m_cmp .ne (bif m_cmp .lt b 49 then (0 : Int32) else (bif m_cmp .gt b 57 then (0 : Int32) else (1 : Int32))) 0 = _
    cases m_cmp .lt b 49
    · cases m_cmp .gt b 57 <;> rfl
    · rfl
  · rw [e, if_neg (by decide), if_neg (by decide)]
    show m_cmp .ne (bif m_cmp .ne b 59 then (0 : Int32) else (1 : Int32)) 0 = _
    rw [eq_ne b 59]
    cases m_cmp .ne b 59 <;> rfl
theorem ofn_cl (v : Int32) (h : 0 ≤ v.toInt) : Int32.ofNat v.toNatClampNeg = v := by
  apply Int32.toInt_inj.mp
  rw [ofn_int (cl_lt v)]
  exact Int.toNat_of_nonneg h
theorem crC {s : SG} (h0 : 0 ≤ (s 109 1).toInt) (h1 : (s 109 1).toNatClampNeg ≤ 23) : CrS (s 109 1).toNatClampNeg (s 110) (F_crewFault s) := by
  have key : ∀ (n lo : Nat), lo + n = (s 109 1).toNatClampNeg → (∀ j, j < lo → fitCb j (s 110 j) = true) → (itx (B_crewFault_2 s) lo n () = .inl () ∧ ∀ j, j < (s 109 1).toNatClampNeg → fitCb j (s 110 j) = true) ∨ ∃ i, i < (s 109 1).toNatClampNeg ∧ itx (B_crewFault_2 s) lo n () = .inr (i, Int32.ofNat i) ∧ (∀ j, j < i → fitCb j (s 110 j) = true) ∧ fitCb i (s 110 i) = false := by
    intro n
    induction n with
    | zero => intro lo hl hj; exact Or.inl ⟨rfl, fun j h => hj j (by omega)⟩
    | succ n ih =>
      intro lo hl hj
      have hB : B_crewFault_2 s lo () = (bif fitCb lo (s 110 lo) then .inl () else .inr (Int32.ofNat lo)) := by
        unfold B_crewFault_2
        rw [fitsC s lo (by omega)]
      cases q : fitCb lo (s 110 lo) with
      | true =>
        rw [itx_l _ (x := ()) (by rw [hB, q]; rfl)]
        exact ih (lo + 1) (by omega) (fun j h => by
          by_cases w : j = lo
          · rw [w]; exact q
          · exact hj j (by omega))
      | false =>
        rw [itx_r _ (b := Int32.ofNat lo) (by rw [hB, q]; rfl)]
        exact Or.inr ⟨lo, by omega, rfl, hj, q⟩
  unfold F_crewFault
  rcases key (s 109 1).toNatClampNeg 0 (Nat.zero_add _) (fun j h => absurd h (by omega)) with ⟨k1, k2⟩ | ⟨i, k1, k2, k3, k4⟩
  · rw [k1]
    refine Or.inr ⟨k2, ?_⟩
    show (bif m_cmp .eq (s 109 1) 0 then (-1 : Int32) else (bif m_cmp .ne ((s 109 1) - (s 109 1) / 3 * 3) 2 then s 109 1 else (-1 : Int32))) = _
    have ec := ofn_cl _ h0
    generalize (s 109 1).toNatClampNeg = L at *
    rw [← ec, m3 L (by omega)]
    exact l23 L (by omega)
  · rw [k2]
    exact Or.inl ⟨i, k1, k3, k4, rfl⟩
def srtV (b : Int32) : Int32 := bif m_cmp .ne b 115 then (bif m_cmp .ne b 102 then (2 : Int32) else (1 : Int32)) else (0 : Int32)
/-- how many rowers the fault leaves -/
def rowN (len x : Int32) : Int32 := bif m_cmp .ne x (-1) then (0 : Int32) else (len + 1) / 3
theorem dv3 : ∀ L, L < 24 → ((Int32.ofNat L + 1) / 3).toNatClampNeg = (L + 1) / 3 := by decide
theorem idx3 {i c : Nat} (hi : i < 8) (hc : c < 3) : ((3 * Int32.ofNat i) + Int32.ofNat c).toNatClampNeg = 3 * i + c := by
  rw [show (3 * Int32.ofNat i) + Int32.ofNat c = Int32.ofNat (3 * i + c) from ofn_add (ofn_mul rfl rfl) rfl]
  exact Int32.toNatClampNeg_ofNat_of_lt (by omega)
theorem idx30 {i : Nat} (hi : i < 8) : (3 * Int32.ofNat i).toNatClampNeg = 3 * i := by
  rw [show 3 * Int32.ofNat i = Int32.ofNat (3 * i) from ofn_mul rfl rfl]
  exact Int32.toNatClampNeg_ofNat_of_lt (by omega)
theorem tkC {s : SG} (hn : (rowN (s 109 1) (F_crewFault s)).toNatClampNeg ≤ 8) : F_takeCrew s 10 0 = rowN (s 109 1) (F_crewFault s) ∧ ∀ k, k < (rowN (s 109 1) (F_crewFault s)).toNatClampNeg → F_takeCrew s 11 k = srtV (s 110 (3 * k)) ∧ F_takeCrew s 12 k = s 110 (3 * k + 1) - 48 := by
  have key : ∀ i, i ≤ (rowN (s 109 1) (F_crewFault s)).toNatClampNeg → Fr WL_takeCrew (uset s 10 0 (rowN (s 109 1) (F_crewFault s))) (itr B_takeCrew_16 0 i (uset s 10 0 (rowN (s 109 1) (F_crewFault s)))) ∧ ∀ k, k < i → itr B_takeCrew_16 0 i (uset s 10 0 (rowN (s 109 1) (F_crewFault s))) 11 k = srtV (s 110 (3 * k)) ∧ itr B_takeCrew_16 0 i (uset s 10 0 (rowN (s 109 1) (F_crewFault s))) 12 k = s 110 (3 * k + 1) - 48 := by
    intro i
    induction i with
    | zero => exact fun _ => ⟨Fr.rf _ _, fun k hk => absurd hk (by omega)⟩
    | succ i ih =>
      intro hi
      obtain ⟨f, e⟩ := ih (by omega)
      rw [itr_0]
      generalize itr B_takeCrew_16 0 i (uset s 10 0 (rowN (s 109 1) (F_crewFault s))) = a at f e
      refine ⟨f.tr (fr_B_takeCrew_16 i a), fun k hk => ?_⟩
      have hB : B_takeCrew_16 i a = uset (uset a 11 i (srtV (a 110 (3 * Int32.ofNat i).toNatClampNeg))) 12 i (a 110 ((3 * Int32.ofNat i) + 1).toNatClampNeg - 48) := rfl
      have e1 : ((3 * Int32.ofNat i) + 1).toNatClampNeg = 3 * i + 1 := idx3 (c := 1) (by omega) (by decide)
      have e110 : ∀ j, a 110 j = s 110 j := fun j => f 110 j rfl
      rw [hB, idx30 (by omega), e1, e110, e110]
      by_cases q : k = i
      · subst q
        exact ⟨(uset_na (by decide)).trans (uset_eq _ _ _ _), uset_eq _ _ _ _⟩
      · rw [uset_na (by decide), uset_nj q, uset_nj q, uset_na (by decide)]
        exact e k (by omega)
  obtain ⟨f, e⟩ := key _ (Nat.le_refl _)
  have eF : F_takeCrew s = itr B_takeCrew_16 0 (rowN (s 109 1) (F_crewFault s)).toNatClampNeg (uset s 10 0 (rowN (s 109 1) (F_crewFault s))) := rfl
  rw [eF]
  exact ⟨f 10 0 rfl, e⟩
end
section
/-! the model reads the crew -/
theorem by0 {a : SG} {j : Nat} (h : j < (a 124 0).toNatClampNeg) (h2 : (a 124 0).toNatClampNeg ≤ 24) : F_byteAt_0 a (Int32.ofNat j) = a 125 j := by
  unfold F_byteAt_0
  dsimp only
  rw [ge_F h]
  show a 125 ((24 * 0) + Int32.ofNat j).toNatClampNeg = _
  rw [show ((24 * 0 : Int32) + Int32.ofNat j).toNatClampNeg = 24 * 0 + j from idx24 (k := 0) (by decide) (by omega), Nat.mul_zero, Nat.zero_add]
theorem by0n {a : SG} {j : Nat} (h : (a 124 0).toNatClampNeg ≤ j) (hj : j < 100) : F_byteAt_0 a (Int32.ofNat j) = -1 := by
  unfold F_byteAt_0
  dsimp only
  rw [show m_cmp .ge (Int32.ofNat j) (a 124 0) = true from m_ge_iff.mpr (by rw [ofn_int (by omega)]; have h : (a 124 0).toInt.toNat ≤ j := h; omega)]
  rfl
theorem f0C (i : Nat) (b : Int32) : fitCb (3 * i) b = (bif m_cmp .eq b 115 then true else (bif m_cmp .eq b 102 then true else m_cmp .eq b 108)) := by
  unfold fitCb
  rw [if_pos (by omega)]
theorem f1C (i : Nat) (b : Int32) : fitCb (3 * i + 1) b = (bif m_cmp .lt b 49 then false else !(m_cmp .gt b 57)) := by
  unfold fitCb
  rw [if_neg (by omega), if_pos (by omega)]
theorem f2C (i : Nat) (b : Int32) : fitCb (3 * i + 2) b = m_cmp .eq b 59 := by
  unfold fitCb
  rw [if_neg (by omega), if_neg (by omega)]
theorem in19 (a : SG) (b : Int32) : m_cmp .ne (F_in a (b - 48) 1 9) 0 = (bif m_cmp .lt b 49 then false else !(m_cmp .gt b 57)) := by
  have e1 : (1 : Int32).toInt = 1 := by decide
  have e9 : (9 : Int32).toInt = 9 := by decide
  have e48 : (48 : Int32).toInt = 48 := by decide
  have e49 : (49 : Int32).toInt = 49 := by decide
  have e57 : (57 : Int32).toInt = 57 := by decide
  have hb : b - 48 + 48 = b := Int32.sub_add_cancel b 48
  have fwd : (1 ≤ (b - 48).toInt ∧ (b - 48).toInt ≤ 9) → 49 ≤ b.toInt ∧ b.toInt ≤ 57 := fun h => by
    have : (b - 48 + 48).toInt = (b - 48).toInt + 48 := (i32_add (by omega) (by omega)).trans (by omega)
    rw [hb] at this
    omega
  have bwd : (49 ≤ b.toInt ∧ b.toInt ≤ 57) → 1 ≤ (b - 48).toInt ∧ (b - 48).toInt ≤ 9 := fun h => by
    have : (b - 48).toInt = b.toInt - 48 := (i32_sub (by omega) (by omega)).trans (by omega)
    omega
  unfold F_in
  dsimp only
  cases c1 : m_cmp .lt (b - 48) 1 with
  | true =>
    have d1 := m_lt_iff.mp c1
    cases c2 : m_cmp .lt b 49 with
    | true => rfl
    | false =>
      have d2 := m_ff m_lt_iff c2
      cases c3 : m_cmp .gt b 57 with
      | true => rfl
      | false =>
        have d3 := m_ff m_gt_iff c3
        have := bwd (by omega)
        omega
  | false =>
    have d1 := m_ff m_lt_iff c1
    cases c4 : m_cmp .gt (b - 48) 9 with
    | true =>
      have d4 := m_gt_iff.mp c4
      cases c2 : m_cmp .lt b 49 with
      | true => rfl
      | false =>
        have d2 := m_ff m_lt_iff c2
        cases c3 : m_cmp .gt b 57 with
        | true => rfl
        | false =>
          have d3 := m_ff m_gt_iff c3
          have := bwd (by omega)
          omega
    | false =>
      have d4 := m_ff m_gt_iff c4
      have w := fwd (by omega)
      have c2 : m_cmp .lt b 49 = false := by
        cases c : m_cmp .lt b 49 with
        | false => rfl
        | true => have := m_lt_iff.mp c; omega
      have c3 : m_cmp .gt b 57 = false := by
        cases c : m_cmp .gt b 57 with
        | false => rfl
        | true => have := m_gt_iff.mp c; omega
      rw [c2, c3]
      rfl
/-- one rower read, by its place -/
theorem rrM {a : SG} {i : Nat} (hi : i < 8) (at_ : Int32) (v w : Int32) (hv : F_byteAt_0 a at_ = v) (hw : F_byteAt_0 a (at_ + 1) = w) : F_readsRower a (Int32.ofNat i) at_ = (bif (bif m_cmp .eq v 115 then true else (bif m_cmp .eq v 102 then true else m_cmp .eq v 108)) then (bif (bif m_cmp .lt w 49 then false else !(m_cmp .gt w 57)) then ((2 : Int32), uset (uset a 126 i (srtV v)) 127 i (w - 48)) else ((1 : Int32), a)) else ((0 : Int32), a)) := by
  have h8 : ∀ k, k < 8 → m_cmp .eq (Int32.ofNat k) 8 = false := by decide
  unfold F_readsRower
  dsimp only
  rw [hv, hw, h8 i hi, in19, Int32.toNatClampNeg_ofNat_of_lt (by omega), eq_ne, eq_ne, eq_ne]
  unfold srtV
  cases m_cmp .ne v 115
  · rfl
  · cases m_cmp .ne v 102
    · rfl
    · cases m_cmp .ne v 108 <;> rfl
end
section
/-! the model reads the whole crew -/
def crD (a : SG) (i : Nat) (at_ : Int32) : (SG × Int32) ⊕ (Int32 × SG) := bif m_cmp .ge (F_readsRower a (Int32.ofNat i) at_).1 2 then (bif m_cmp .ne (at_ + 2) ((F_readsRower a (Int32.ofNat i) at_).2 124 0) then (bif m_cmp .eq (F_byteAt_0 (F_readsRower a (Int32.ofNat i) at_).2 (at_ + 2)) 59 then .inl ((F_readsRower a (Int32.ofNat i) at_).2, (at_ + 2) + 1) else .inr (at_ + 2, (F_readsRower a (Int32.ofNat i) at_).2)) else .inr ((-1), (uset (F_readsRower a (Int32.ofNat i) at_).2 123 2 ((Int32.ofNat i) + 1)))) else .inr (at_ + (F_readsRower a (Int32.ofNat i) at_).1, (F_readsRower a (Int32.ofNat i) at_).2)
theorem crB (i : Nat) (a : SG) (at_ : Int32) : B_readsCrew_7 i (a, at_) = (bif m_cmp .lt at_ (a 124 0) then crD a i at_ else (bif m_cmp .le at_ 0 then .inr ((-1), a) else crD a i at_)) := rfl
theorem row0 (len : Int32) {j : Nat} (hj : j < 24) : rowN len (Int32.ofNat j) = 0 := by
  unfold rowN
  rw [ne24 j hj]
  rfl
def CrE (s : SG) (x : Int32) (z : SG) : Prop := CrS (s 124 0).toNatClampNeg (s 125) x ∧ z 123 2 = rowN (s 124 0) x ∧ ∀ k, k < (rowN (s 124 0) x).toNatClampNeg → z 126 k = srtV (s 125 (3 * k)) ∧ z 127 k = s 125 (3 * k + 1) - 48
theorem rowI : ∀ i, i < 8 → (Int32.ofNat (3 * i + 2) + 1) / 3 = Int32.ofNat (i + 1) := by decide
theorem CrE.bad {s a : SG} {j : Nat} (hj : j < 24) (h : CrS (s 124 0).toNatClampNeg (s 125) (Int32.ofNat j)) (ha : a 123 2 = 0) : CrE s (Int32.ofNat j) a := by
  refine ⟨h, by rw [row0 _ hj]; exact ha, fun k hk => ?_⟩
  rw [row0 _ hj] at hk
  exact absurd hk (by show ¬ k < 0; omega)
theorem add_ofn (i c : Nat) : Int32.ofNat i + Int32.ofNat c = Int32.ofNat (i + c) := ofn_add rfl rfl
theorem rcM {s : SG} (h0 : 0 ≤ (s 124 0).toInt) (hL : (s 124 0).toNatClampNeg ≤ 23) : ∀ (m i : Nat) (a : SG), i + m = 9 → 3 * i ≤ (s 124 0).toNatClampNeg → a 124 0 = s 124 0 → (∀ j, a 125 j = s 125 j) → a 123 2 = 0 → (∀ j, j < 3 * i → fitCb j (s 125 j) = true) → (∀ k, k < i → a 126 k = srtV (s 125 (3 * k)) ∧ a 127 k = s 125 (3 * k + 1) - 48) → ∃ j x z, itx B_readsCrew_7 i m (a, Int32.ofNat (3 * i)) = .inr (j, (x, z)) ∧ CrE s x z := by
  intro m
  induction m with
  | zero => intro i a hm hi; exact absurd hi (by omega)
  | succ m ih =>
    intro i a hm hi a4 a5 a2 hf hs
    have hi8 : i < 8 := by omega
    have fin : ∀ x z, B_readsCrew_7 i (a, Int32.ofNat (3 * i)) = .inr (x, z) → CrE s x z → ∃ j x z, itx B_readsCrew_7 i (m + 1) (a, Int32.ofNat (3 * i)) = .inr (j, (x, z)) ∧ CrE s x z := fun x z h k => ⟨i, x, z, itx_r _ h, k⟩
    have p0 : Int32.ofNat (3 * i) + 0 = Int32.ofNat (3 * i) := Int32.add_zero _
    have p1 : Int32.ofNat (3 * i) + 1 = Int32.ofNat (3 * i + 1) := add_ofn _ 1
    have p2 : Int32.ofNat (3 * i) + 2 = Int32.ofNat (3 * i + 2) := add_ofn _ 2
    by_cases q : 3 * i < (s 124 0).toNatClampNeg
    · have c1 : m_cmp .lt (Int32.ofNat (3 * i)) (a 124 0) = true := m_lt_iff.mpr (by rw [ofn_int (by omega), a4]; have q : 3 * i < (s 124 0).toInt.toNat := q; omega)
      have hv : F_byteAt_0 a (Int32.ofNat (3 * i)) = s 125 (3 * i) := (by0 (by rw [a4]; exact q) (by rw [a4]; omega)).trans (a5 _)
      have hB : B_readsCrew_7 i (a, Int32.ofNat (3 * i)) = crD a i (Int32.ofNat (3 * i)) := by rw [crB, c1]; rfl
      rw [hB] at fin
      have f0 := f0C i (s 125 (3 * i))
      cases e0 : fitCb (3 * i) (s 125 (3 * i)) with
      | false =>
        have hr := rrM hi8 (Int32.ofNat (3 * i)) _ _ hv rfl
        rw [← f0, e0] at hr
        refine fin (Int32.ofNat (3 * i)) a (by unfold crD; rw [hr]; show (.inr (Int32.ofNat (3 * i) + 0, a) : (SG × Int32) ⊕ (Int32 × SG)) = _; rw [p0]) (CrE.bad (by omega) (Or.inl ⟨3 * i, q, hf, e0, rfl⟩) a2)
      | true =>
        have hf1 : ∀ j, j < 3 * i + 1 → fitCb j (s 125 j) = true := fun j hj => by
          by_cases w : j = 3 * i
          · rw [w]; exact e0
          · exact hf j (by omega)
        by_cases q1 : 3 * i + 1 < (s 124 0).toNatClampNeg
        · have hw : F_byteAt_0 a (Int32.ofNat (3 * i) + 1) = s 125 (3 * i + 1) := by rw [p1]; exact (by0 (by rw [a4]; exact q1) (by rw [a4]; omega)).trans (a5 _)
          have hr := rrM hi8 (Int32.ofNat (3 * i)) _ _ hv hw
          have f1 := f1C i (s 125 (3 * i + 1))
          rw [← f0, e0, ← f1] at hr
          cases e1 : fitCb (3 * i + 1) (s 125 (3 * i + 1)) with
          | false =>
            rw [e1] at hr
            refine fin (Int32.ofNat (3 * i + 1)) a (by unfold crD; rw [hr]; show (.inr (Int32.ofNat (3 * i) + 1, a) : (SG × Int32) ⊕ (Int32 × SG)) = _; rw [p1]) (CrE.bad (by omega) (Or.inl ⟨3 * i + 1, q1, hf1, e1, rfl⟩) a2)
          | true =>
            rw [e1] at hr
            have hf2 : ∀ j, j < 3 * i + 2 → fitCb j (s 125 j) = true := fun j hj => by
              by_cases w : j = 3 * i + 1
              · rw [w]; exact e1
              · exact hf1 j (by omega)
            have hr : F_readsRower a (Int32.ofNat i) (Int32.ofNat (3 * i)) = ((2 : Int32), uset (uset a 126 i (srtV (s 125 (3 * i)))) 127 i (s 125 (3 * i + 1) - 48)) := hr
            have hs2 : ∀ k, k < i + 1 → uset (uset a 126 i (srtV (s 125 (3 * i)))) 127 i (s 125 (3 * i + 1) - 48) 126 k = srtV (s 125 (3 * k)) ∧ uset (uset a 126 i (srtV (s 125 (3 * i)))) 127 i (s 125 (3 * i + 1) - 48) 127 k = s 125 (3 * k + 1) - 48 := fun k hk => by
              by_cases w : k = i
              · subst w
                exact ⟨(uset_na (by decide)).trans (uset_eq _ _ _ _), uset_eq _ _ _ _⟩
              · rw [uset_na (by decide), uset_nj w, uset_nj w, uset_na (by decide)]
                exact hs k (by omega)
            generalize hA : uset (uset a 126 i (srtV (s 125 (3 * i)))) 127 i (s 125 (3 * i + 1) - 48) = A at hr hs2
            have A4 : A 124 0 = s 124 0 := by rw [← hA]; exact a4
            have A5 : ∀ j, A 125 j = s 125 j := fun j => by rw [← hA]; exact a5 j
            have A2 : A 123 2 = 0 := by rw [← hA]; exact a2
            have hD : crD a i (Int32.ofNat (3 * i)) = (bif m_cmp .ne (Int32.ofNat (3 * i + 2)) (s 124 0) then (bif m_cmp .eq (F_byteAt_0 A (Int32.ofNat (3 * i + 2))) 59 then .inl (A, Int32.ofNat (3 * i + 2) + 1) else .inr (Int32.ofNat (3 * i + 2), A)) else .inr ((-1), (uset A 123 2 ((Int32.ofNat i) + 1)))) := by
              unfold crD
              rw [hr]
              show (bif m_cmp .ne (Int32.ofNat (3 * i) + 2) (A 124 0) then (bif m_cmp .eq (F_byteAt_0 A (Int32.ofNat (3 * i) + 2)) 59 then _ else _) else _) = _
              rw [p2, A4]
            rw [hD] at fin
            by_cases q2 : 3 * i + 2 < (s 124 0).toNatClampNeg
            · have cn : m_cmp .ne (Int32.ofNat (3 * i + 2)) (s 124 0) = true := m_ne_iff.mpr (fun w => by
                have := congrArg Int32.toNatClampNeg w
                rw [Int32.toNatClampNeg_ofNat_of_lt (by omega)] at this
                omega)
              have hx : F_byteAt_0 A (Int32.ofNat (3 * i + 2)) = s 125 (3 * i + 2) := (by0 (by rw [A4]; exact q2) (by rw [A4]; omega)).trans (A5 _)
              have f2 := f2C i (s 125 (3 * i + 2))
              cases e2 : fitCb (3 * i + 2) (s 125 (3 * i + 2)) with
              | false =>
                refine fin (Int32.ofNat (3 * i + 2)) A (by rw [cn, hx, ← f2, e2]; rfl) (CrE.bad (by omega) (Or.inl ⟨3 * i + 2, q2, hf2, e2, rfl⟩) A2)
              | true =>
                have hN : B_readsCrew_7 i (a, Int32.ofNat (3 * i)) = .inl (A, Int32.ofNat (3 * (i + 1))) := by
                  rw [hB, hD, cn, hx, ← f2, e2]
                  show (.inl (A, Int32.ofNat (3 * i + 2) + 1) : (SG × Int32) ⊕ (Int32 × SG)) = _
                  rw [ofn_s, show 3 * i + 2 + 1 = 3 * (i + 1) by omega]
                rw [itx_l _ hN]
                exact ih (i + 1) A (by omega) (by omega) A4 A5 A2 (fun j hj => by
                  by_cases w : j = 3 * i + 2
                  · rw [w]; exact e2
                  · exact hf2 j (by omega)) hs2
            · have eL : (s 124 0).toNatClampNeg = 3 * i + 2 := by omega
              have el : s 124 0 = Int32.ofNat (3 * i + 2) := by rw [← eL]; exact (ofn_cl _ h0).symm
              have cn : m_cmp .ne (Int32.ofNat (3 * i + 2)) (s 124 0) = false := by
                rw [el]
                cases c : m_cmp .ne (Int32.ofNat (3 * i + 2)) (Int32.ofNat (3 * i + 2)) with
                | false => rfl
                | true => exact absurd rfl (m_ne_iff.mp c)
              have hN : rowN (s 124 0) (-1) = Int32.ofNat (i + 1) := by
                show (s 124 0 + 1) / 3 = _
                rw [el]
                exact rowI i hi8
              refine fin (-1) (uset A 123 2 (Int32.ofNat i + 1)) (by rw [cn]; rfl) ⟨Or.inr ⟨fun j hj => hf2 j (by omega), by rw [if_pos (Or.inr (by omega))]⟩, ?_, fun k hk => ?_⟩
              · rw [uset_eq, hN, ofn_s]
              · rw [hN, Int32.toNatClampNeg_ofNat_of_lt (by omega)] at hk
                rw [uset_na (by decide), uset_na (by decide)]
                exact hs2 k hk
        · have eL : (s 124 0).toNatClampNeg = 3 * i + 1 := by omega
          have hw : F_byteAt_0 a (Int32.ofNat (3 * i) + 1) = -1 := by rw [p1]; exact by0n (by rw [a4]; omega) (by omega)
          have hr := rrM hi8 (Int32.ofNat (3 * i)) _ _ hv hw
          rw [← f0, e0] at hr
          refine fin (Int32.ofNat (3 * i + 1)) a (by unfold crD; rw [hr]; show (.inr (Int32.ofNat (3 * i) + 1, a) : (SG × Int32) ⊕ (Int32 × SG)) = _; rw [p1]) (CrE.bad (by omega) (Or.inr ⟨fun j hj => hf1 j (by omega), by rw [if_neg (by omega), eL]⟩) a2)
    · have eL : (s 124 0).toNatClampNeg = 3 * i := by omega
      have c1 : m_cmp .lt (Int32.ofNat (3 * i)) (a 124 0) = false := by
        cases c : m_cmp .lt (Int32.ofNat (3 * i)) (a 124 0) with
        | false => rfl
        | true =>
          have := m_lt_iff.mp c
          rw [ofn_int (by omega), a4] at this
          have q : ¬ 3 * i < (s 124 0).toInt.toNat := q
          omega
      by_cases z : i = 0
      · subst z
        have el : s 124 0 = 0 := by rw [← ofn_cl _ h0, eL]; rfl
        refine fin (-1) a (by rw [crB, c1]; rfl) ⟨Or.inr ⟨fun j hj => absurd hj (by omega), by rw [if_pos (Or.inl (by omega))]⟩, ?_, fun k hk => ?_⟩
        · rw [a2, el]; rfl
        · rw [el] at hk
          exact absurd hk (by show ¬ k < 0; omega)
      · have c2 : m_cmp .le (Int32.ofNat (3 * i)) 0 = false := by
          cases c : m_cmp .le (Int32.ofNat (3 * i)) 0 with
          | false => rfl
          | true =>
            have := mle_iff.mp c
            rw [ofn_int (by omega)] at this
            have e : (0 : Int32).toInt = 0 := by decide
            omega
        have hv : F_byteAt_0 a (Int32.ofNat (3 * i)) = -1 := by0n (by rw [a4]; omega) (by omega)
        have hr := rrM hi8 (Int32.ofNat (3 * i)) _ _ hv rfl
        refine fin (Int32.ofNat (3 * i)) a (by rw [crB, c1, c2]; unfold crD; rw [hr]; show (.inr (Int32.ofNat (3 * i) + 0, a) : (SG × Int32) ⊕ (Int32 × SG)) = _; rw [p0]) (CrE.bad (by omega) (Or.inr ⟨fun j hj => hf j (by omega), by rw [if_neg (by omega), eL]⟩) a2)
theorem rd_C {s : SG} (h0 : 0 ≤ (s 124 0).toInt) (hL : (s 124 0).toNatClampNeg ≤ 23) : CrE s (F_readsCrew s).1 (F_readsCrew s).2 := by
  obtain ⟨j, x, z, h1, h2⟩ := rcM h0 hL 9 0 (uset s 123 2 0) (by omega) (by omega) rfl (fun _ => rfl) rfl (fun j hj => absurd hj (by omega)) (fun k hk => absurd hk (by omega))
  have e : F_readsCrew s = (x, z) := by
    unfold F_readsCrew
    rw [show itx B_readsCrew_7 0 9 (uset s 123 2 0, (0 : Int32)) = .inr (j, (x, z)) from h1]
    rfl
  rw [e]
  exact h2
end
section
/-! what the model reads, all of it; the texts of both sides -/
def lnM (s : SG) : Prop := 0 ≤ (s 124 0).toInt ∧ (s 124 0).toNatClampNeg ≤ 23 ∧ (s 124 1).toNatClampNeg ≤ 24 ∧ (s 124 2).toNatClampNeg ≤ 24
theorem flM {s : SG} (h : lnM s) : CrE s (F_readsCrew s).1 (F_reads s) ∧ (F_readsRates (F_readsCrew s).2).1 = flt fitRb (s 124 1) (fun k => s 125 (24 * 1 + k)) ∧ (F_readsRudder (F_readsRates (F_readsCrew s).2).2).1 = flt fitDb (s 124 2) (fun k => s 125 (24 * 2 + k)) ∧ (F_reads s) 123 5 = manyS fitRb (s 124 1) (fun k => s 125 (24 * 1 + k)) ∧ (F_reads s) 123 7 = manyS fitDb (s 124 2) (fun k => s 125 (24 * 2 + k)) ∧ ∀ t, t < 24 → (F_reads s) 128 t = ratS (s 124 1) (fun k => s 125 (24 * 1 + k)) t ∧ (F_reads s) 129 t = rudS (s 124 2) (fun k => s 125 (24 * 2 + k)) t := by
  obtain ⟨h0, h1, h2, h3⟩ := h
  have eR : F_reads s = (F_readsRudder (F_readsRates (F_readsCrew s).2).2).2 := by
    unfold F_reads F_faultOf
    dsimp only
  have f1 := fr_readsCrew s
  have f2 := fr_readsRates (F_readsCrew s).2
  have f3 := fr_readsRudder (F_readsRates (F_readsCrew s).2).2
  have C := rd_C h0 h1
  generalize (F_readsCrew s).1 = x at *
  generalize (F_readsCrew s).2 = z1 at *
  have a1 : z1 124 1 = s 124 1 := f1 124 1 rfl
  have b1 : ∀ j, z1 125 j = s 125 j := fun j => f1 125 j rfl
  have R := rd_R (s := z1) (by rw [a1]; exact h2)
  have g1 : (fun k => z1 125 (24 * 1 + k)) = fun k => s 125 (24 * 1 + k) := funext (fun k => b1 _)
  rw [a1, g1] at R
  have a2 : (F_readsRates z1).2 124 2 = s 124 2 := (f2 124 2 rfl).trans (f1 124 2 rfl)
  have b2 : ∀ j, (F_readsRates z1).2 125 j = s 125 j := fun j => (f2 125 j rfl).trans (f1 125 j rfl)
  have D := rd_D (s := (F_readsRates z1).2) (by rw [a2]; exact h3)
  have g2 : (fun k => (F_readsRates z1).2 125 (24 * 2 + k)) = fun k => s 125 (24 * 2 + k) := funext (fun k => b2 _)
  rw [a2, g2] at D
  rw [eR]
  refine ⟨⟨C.1, ?_, fun k hk => ⟨?_, ?_⟩⟩, R.1, D.1, ?_, D.2.1, fun t ht => ⟨?_, D.2.2 t ht⟩⟩
  · rw [f3 123 2 rfl, f2 123 2 rfl]; exact C.2.1
  · rw [f3 126 k rfl, f2 126 k rfl]; exact (C.2.2 k hk).1
  · rw [f3 127 k rfl, f2 127 k rfl]; exact (C.2.2 k hk).2
  · rw [f3 123 5 rfl]; exact R.2.1
  · rw [f3 128 t rfl]; exact R.2.2 t ht
/-- the texts are alike -/
def KT (s : SG) : Prop := lnM s ∧ s 109 1 = s 124 0 ∧ s 111 1 = s 124 1 ∧ s 113 1 = s 124 2 ∧ (∀ k, k < (s 124 0).toNatClampNeg → s 110 k = s 125 k) ∧ (∀ k, k < (s 124 1).toNatClampNeg → s 112 k = s 125 (24 * 1 + k)) ∧ ∀ k, k < (s 124 2).toNatClampNeg → s 114 k = s 125 (24 * 2 + k)
/-- the class has told what the model reads -/
def KD (s : SG) : Prop := s 10 0 = (F_reads s) 123 2 ∧ (∀ k, k < (s 10 0).toNatClampNeg → s 11 k = (F_reads s) 126 k ∧ s 12 k = (F_reads s) 127 k) ∧ ∀ t, t < 24 → s 13 t = (F_reads s) 128 t ∧ s 14 t = (F_reads s) 129 t
/-- the faults are alike: promise 5's answers -/
theorem faults {s : SG} (h : KT s) : F_crewFault s = (F_readsCrew s).1 ∧ F_signFault_1 s = (F_readsRates (F_readsCrew s).2).1 ∧ F_signFault_2 s = (F_readsRudder (F_readsRates (F_readsCrew s).2).2).1 := by
  obtain ⟨hl, e0, e1, e2, t0, t1, t2⟩ := h
  obtain ⟨C, R, D, -⟩ := flM hl
  refine ⟨?_, ?_, ?_⟩
  · have c := crC (s := s) (by rw [e0]; exact hl.1) (by rw [e0]; exact hl.2.1)
    rw [e0] at c
    exact CrS.uniq (c.cong t0) C.1
  · rw [sf1, R, e1]
    exact flt_cong t1
  · rw [sf2, D, e2]
    exact flt_cong t2
end
section
/-! what the class takes is what the model reads -/
theorem manyS_cong {fit : Int32 → Bool} {len : Int32} {b c : NI} (h : ∀ i, i < len.toNatClampNeg → b i = c i) : manyS fit len b = manyS fit len c := by
  unfold manyS
  rw [flt_cong h]
theorem manyS_lt {fit : Int32 → Bool} {len : Int32} {b : NI} {t : Nat} (ht : t < 24) (h : m_cmp .ge (Int32.ofNat t) (manyS fit len b) = false) : t < len.toNatClampNeg := by
  have h1 := m_ff m_ge_iff h
  rw [ofn_int (by omega)] at h1
  unfold manyS at h1
  cases c : m_cmp .ne (flt fit len b) (-1) with
  | true =>
    rw [c] at h1
    have e : (0 : Int32).toInt = 0 := by decide
    have h1 : ¬ (0 : Int32).toInt ≤ (t : Int) := h1
    omega
  | false =>
    rw [c] at h1
    have h1 : ¬ len.toInt ≤ (t : Int) := h1
    show t < len.toInt.toNat
    omega
theorem ratS_cong {len : Int32} {b c : NI} {t : Nat} (ht : t < 24) (h : ∀ i, i < len.toNatClampNeg → b i = c i) : ratS len b t = ratS len c t := by
  unfold ratS
  rw [← manyS_cong h]
  cases q : m_cmp .ge (Int32.ofNat t) (manyS fitRb len b) with
  | true => rfl
  | false =>
    show b t - 48 = c t - 48
    rw [h t (manyS_lt ht q)]
theorem rudS_cong {len : Int32} {b c : NI} {t : Nat} (ht : t < 24) (h : ∀ i, i < len.toNatClampNeg → b i = c i) : rudS len b t = rudS len c t := by
  unfold rudS
  rw [← manyS_cong h]
  cases q : m_cmp .ge (Int32.ofNat t) (manyS fitDb len b) with
  | true => rfl
  | false =>
    show rudV (b t) = rudV (c t)
    rw [h t (manyS_lt ht q)]
end
section
/-! WHAT BOTH SIDES KEEP ALIKE: texts and the told course -/
abbrev LW : Type := List (Nat × Nat × Option Nat)
def Ag (D : LW) (s s1 : SG) : Prop := ∀ a j, inW D a j = true → s1 a j = s a j
def djW (W D : LW) : Bool := W.all (fun w => D.all (fun d => Nat.blt w.2.1 d.1 || (Nat.blt d.2.1 w.1 || (match w.2.2, d.2.2 with | some k, some j => !(k == j) | _, _ => false))))
theorem Fr.ag {W : LW} {s s1 : SG} (f : Fr W s s1) (D : LW) (h : djW W D = true) : Ag D s s1 := fun a j hj => f a j (by
  cases q : inW W a j with
  | false => rfl
  | true =>
    exfalso
    obtain ⟨⟨lo, hi, p⟩, w1, w2⟩ := List.any_eq_true.mp q
    obtain ⟨⟨lo2, hi2, p2⟩, d1, d2⟩ := List.any_eq_true.mp hj
    have k := List.all_eq_true.mp (List.all_eq_true.mp h _ w1) _ d1
    obtain ⟨a1, c⟩ := b_and w2
    obtain ⟨a2, e⟩ := b_and c
    obtain ⟨a3, c2⟩ := b_and d2
    obtain ⟨a4, e2⟩ := b_and c2
    have a1 : lo ≤ a := Nat.ble_eq.mp a1
    have a2 : a ≤ hi := Nat.ble_eq.mp a2
    have a3 : lo2 ≤ a := Nat.ble_eq.mp a3
    have a4 : a ≤ hi2 := Nat.ble_eq.mp a4
    rcases (Bool.or_eq_true _ _).mp k with k | k
    · have k : hi < lo2 := by simpa [Nat.blt_eq] using k
      omega
    · rcases (Bool.or_eq_true _ _).mp k with k | k
      · have k : hi2 < lo := by simpa [Nat.blt_eq] using k
        omega
      · cases p with
        | none => cases k
        | some x =>
          cases p2 with
          | none => cases k
          | some y =>
            have e : x = j := by simpa using e
            have e2 : y = j := by simpa using e2
            subst e
            subst e2
            simp at k)
theorem Ag.tr {D : LW} {s s1 s2 : SG} (a : Ag D s s1) (b : Ag D s1 s2) : Ag D s s2 := fun x j h => (b x j h).trans (a x j h)
theorem Ag.rf (D : LW) (s : SG) : Ag D s s := fun _ _ _ => rfl
theorem Ag.cell {D : LW} {s s1 : SG} (a : Ag D s s1) (c : Nat) (h : ∀ j, inW D c j = true) : s1 c = s c := funext (fun j => a c j (h j))
def DT : LW := [(109, 114, none), (124, 125, none)]
def KU (s : SG) : Prop := KT s ∧ 0 ≤ (s 124 1).toInt ∧ 0 ≤ (s 124 2).toInt
theorem KU.ag {s s1 : SG} (a : Ag DT s s1) (h : KU s) : KU s1 := by
  unfold KU KT lnM at *
  rw [a.cell 124 (fun _ => rfl), a.cell 125 (fun _ => rfl), a.cell 109 (fun _ => rfl), a.cell 110 (fun _ => rfl), a.cell 111 (fun _ => rfl), a.cell 112 (fun _ => rfl), a.cell 113 (fun _ => rfl), a.cell 114 (fun _ => rfl)]
  exact h
/-- the told course is what the class's texts say -/
def KC0 (s : SG) : Prop := (∃ x, CrS (s 109 1).toNatClampNeg (s 110) x ∧ s 10 0 = rowN (s 109 1) x) ∧ ∀ k, k < (s 10 0).toNatClampNeg → s 11 k = srtV (s 110 (3 * k)) ∧ s 12 k = s 110 (3 * k + 1) - 48
def KC1 (s : SG) : Prop := ∀ t, t < 24 → s 13 t = ratS (s 111 1) (s 112) t
def KC2 (s : SG) : Prop := ∀ t, t < 24 → s 14 t = rudS (s 113 1) (s 114) t
def KC (s : SG) : Prop := KC0 s ∧ KC1 s ∧ KC2 s
def DC0 : LW := [(10, 10, some 0), (11, 12, none), (109, 110, none)]
def DC1 : LW := [(13, 13, none), (111, 112, none)]
def DC2 : LW := [(14, 14, none), (113, 114, none)]
def DC : LW := [(10, 10, some 0), (11, 14, none), (109, 114, none)]
theorem KC0.ag {s s1 : SG} (a : Ag DC0 s s1) (h : KC0 s) : KC0 s1 := by
  unfold KC0 at *
  rw [a.cell 109 (fun _ => rfl), a.cell 110 (fun _ => rfl), a.cell 11 (fun _ => rfl), a.cell 12 (fun _ => rfl), a 10 0 rfl]
  exact h
theorem KC1.ag {s s1 : SG} (a : Ag DC1 s s1) (h : KC1 s) : KC1 s1 := by
  unfold KC1 at *
  rw [a.cell 111 (fun _ => rfl), a.cell 112 (fun _ => rfl), a.cell 13 (fun _ => rfl)]
  exact h
theorem KC2.ag {s s1 : SG} (a : Ag DC2 s s1) (h : KC2 s) : KC2 s1 := by
  unfold KC2 at *
  rw [a.cell 113 (fun _ => rfl), a.cell 114 (fun _ => rfl), a.cell 14 (fun _ => rfl)]
  exact h
theorem inW_sub {D1 D2 : LW} (h : subW D1 D2 = true) {a j : Nat} (q : inW D1 a j = true) : inW D2 a j = true := by
  cases w : inW D2 a j with
  | true => rfl
  | false =>
    have k : Fr D1 (fun _ _ => 0) (fun b i => bif inW D1 b i then 1 else 0) := fun b i e => by
      show (bif inW D1 b i then (1 : Int32) else 0) = 0
      rw [e]
      rfl
    have k2 : (bif inW D1 a j then (1 : Int32) else 0) = 0 := (k.wk h) a j w
    rw [q] at k2
    exact absurd k2 (by decide)
theorem Ag.sub {D1 D2 : LW} {s s1 : SG} (a : Ag D2 s s1) (h : subW D1 D2 = true) : Ag D1 s s1 := fun b j q => a b j (inW_sub h q)
theorem KC.ag {s s1 : SG} (a : Ag DC s s1) (h : KC s) : KC s1 := ⟨h.1.ag (a.sub rfl), h.2.1.ag (a.sub rfl), h.2.2.ag (a.sub rfl)⟩
theorem rowLt {len x : Int32} {k : Nat} (h0 : 0 ≤ len.toInt) (h1 : len.toNatClampNeg ≤ 23) (h : k < (rowN len x).toNatClampNeg) : 3 * k + 1 < len.toNatClampNeg ∧ k < 8 := by
  unfold rowN at h
  cases c : m_cmp .ne x (-1) with
  | true =>
    rw [c] at h
    have h : k < (0 : Int32).toNatClampNeg := h
    have e : (0 : Int32).toNatClampNeg = 0 := rfl
    omega
  | false =>
    rw [c] at h
    have h : k < ((len + 1) / 3).toNatClampNeg := h
    rw [← ofn_cl len h0, dv3 _ (by omega)] at h
    omega
theorem kd {s : SG} (t : KT s) (c : KC s) : KD s := by
  obtain ⟨⟨⟨x, x1, x2⟩, c2⟩, c3, c4⟩ := c
  obtain ⟨hl, e0, e1, e2, t0, t1, t2⟩ := t
  obtain ⟨⟨C1, C2, C3⟩, -, -, -, -, R⟩ := flM hl
  rw [e0] at x1 x2
  have ex := CrS.uniq (x1.cong t0) C1
  rw [ex] at x2
  refine ⟨by rw [C2]; exact x2, fun k hk => ?_, fun t ht => ⟨?_, ?_⟩⟩
  · have hk2 := hk
    rw [x2] at hk2
    obtain ⟨b1, b2⟩ := c2 k hk
    obtain ⟨d1, d2⟩ := C3 k hk2
    have l := rowLt hl.1 hl.2.1 hk2
    rw [b1, b2, d1, d2, t0 _ (by omega), t0 _ (by omega)]
    exact ⟨rfl, rfl⟩
  · rw [c3 t ht, (R t ht).1, e1]
    exact ratS_cong ht t1
  · rw [c4 t ht, (R t ht).2, e2]
    exact rudS_cong ht t2
/-- rowers are at most eight -/
theorem row8 {s : SG} (t : KT s) (c : KC0 s) : (s 10 0).toNatClampNeg ≤ 8 := by
  obtain ⟨⟨x, x1, x2⟩, c2⟩ := c
  obtain ⟨hl, e0, -⟩ := t
  apply Decidable.byContradiction
  intro q
  have h : 8 < (s 10 0).toNatClampNeg := by omega
  rw [x2, e0] at h
  have := rowLt hl.1 hl.2.1 h
  omega
/-! small tests -/
def bl (v n : Int32) : Bool := bif m_cmp .lt v 0 then false else !(m_cmp .ge v n)
theorem bl_e (s : SG) (v n : Int32) : m_cmp .eq (F_isBelow s v n) 0 = !(bl v n) := by
  unfold F_isBelow bl
  dsimp only
  cases m_cmp .lt v 0
  · cases m_cmp .ge v n <;> rfl
  · rfl
theorem bl_n (s : SG) (v n : Int32) : m_cmp .ne (F_isBelow s v n) 0 = bl v n := by
  unfold F_isBelow bl
  dsimp only
  cases m_cmp .lt v 0
  · cases m_cmp .ge v n <;> rfl
  · rfl
theorem gt_ge {v m n : Int32} (h : m.toInt + 1 = n.toInt) : m_cmp .gt v m = m_cmp .ge v n := by
  cases c : m_cmp .ge v n with
  | true =>
    have := m_ge_iff.mp c
    exact m_gt_iff.mpr (by omega)
  | false =>
    have := m_ff m_ge_iff c
    cases d : m_cmp .gt v m with
    | false => rfl
    | true =>
      have := m_gt_iff.mp d
      omega
theorem in_e (s : SG) (v m n : Int32) (h : m.toInt + 1 = n.toInt) : m_cmp .eq (F_in s v 0 m) 0 = !(bl v n) := by
  unfold F_in bl
  dsimp only
  rw [gt_ge h]
  cases m_cmp .lt v 0
  · cases m_cmp .ge v n <;> rfl
  · rfl
theorem in_n (s : SG) (v m n : Int32) (h : m.toInt + 1 = n.toInt) : m_cmp .ne (F_in s v 0 m) 0 = bl v n := by
  unfold F_in bl
  dsimp only
  rw [gt_ge h]
  cases m_cmp .lt v 0
  · cases m_cmp .ge v n <;> rfl
  · rfl
theorem bl_iff {v n : Int32} : bl v n = true ↔ 0 ≤ v.toInt ∧ v.toInt < n.toInt := by
  have e : (0 : Int32).toInt = 0 := by decide
  unfold bl
  cases c : m_cmp .lt v 0 with
  | true =>
    have := m_lt_iff.mp c
    exact ⟨fun h => (by cases h), fun h => by omega⟩
  | false =>
    have := m_ff m_lt_iff c
    cases d : m_cmp .ge v n with
    | true =>
      have := m_ge_iff.mp d
      exact ⟨fun h => (by cases h), fun h => by omega⟩
    | false =>
      have := m_ff m_ge_iff d
      exact ⟨fun _ => by omega, fun _ => rfl⟩
theorem bl_ofn {v n : Int32} (h : bl v n = true) : v = Int32.ofNat v.toNatClampNeg ∧ v.toNatClampNeg < n.toInt.toNat := by
  obtain ⟨h1, h2⟩ := bl_iff.mp h
  exact ⟨(ofn_cl v h1).symm, by show v.toInt.toNat < _; omega⟩
theorem bl_3 {v : Int32} : bl v 3 = true ↔ v = 0 ∨ v = 1 ∨ v = 2 := by
  constructor
  · intro h
    obtain ⟨h1, h2⟩ := bl_iff.mp h
    have e : (3 : Int32).toInt = 3 := by decide
    have q : v.toInt = (0 : Int32).toInt ∨ v.toInt = (1 : Int32).toInt ∨ v.toInt = (2 : Int32).toInt := by
      have e0 : (0 : Int32).toInt = 0 := by decide
      have e1 : (1 : Int32).toInt = 1 := by decide
      have e2 : (2 : Int32).toInt = 2 := by decide
      omega
    rcases q with q | q | q
    · exact Or.inl (Int32.toInt_inj.mp q)
    · exact Or.inr (Or.inl (Int32.toInt_inj.mp q))
    · exact Or.inr (Or.inr (Int32.toInt_inj.mp q))
  · intro h
    rcases h with rfl | rfl | rfl <;> rfl
theorem bl_4 {v : Int32} : bl v 4 = true ↔ v = 0 ∨ v = 1 ∨ v = 2 ∨ v = 3 := by
  constructor
  · intro h
    obtain ⟨h1, h2⟩ := bl_iff.mp h
    have e : (4 : Int32).toInt = 4 := by decide
    have q : v.toInt = (0 : Int32).toInt ∨ v.toInt = (1 : Int32).toInt ∨ v.toInt = (2 : Int32).toInt ∨ v.toInt = (3 : Int32).toInt := by
      have e0 : (0 : Int32).toInt = 0 := by decide
      have e1 : (1 : Int32).toInt = 1 := by decide
      have e2 : (2 : Int32).toInt = 2 := by decide
      have e3 : (3 : Int32).toInt = 3 := by decide
      omega
    rcases q with q | q | q | q
    · exact Or.inl (Int32.toInt_inj.mp q)
    · exact Or.inr (Or.inl (Int32.toInt_inj.mp q))
    · exact Or.inr (Or.inr (Or.inl (Int32.toInt_inj.mp q)))
    · exact Or.inr (Or.inr (Or.inr (Int32.toInt_inj.mp q)))
  · intro h
    rcases h with rfl | rfl | rfl | rfl <;> rfl
end
section
/-! KU, KC behind type, wipe, undo (printed by wip/u/mk_txt.py) -/
theorem ofn_c {n : Nat} (h : n < 1000) : (Int32.ofNat n).toNatClampNeg = n := Int32.toNatClampNeg_ofNat_of_lt (by omega)
theorem mark_na {s : SG} {a j : Nat} (h : a ≠ 0) : F_mark s a j = s a j := (uset_na h).trans (uset_na h)
theorem lenO {v : Int32} {n : Nat} (h0 : 0 ≤ v.toInt) (h : v.toNatClampNeg ≤ n) : ∃ L, L ≤ n ∧ v = Int32.ofNat L := ⟨v.toNatClampNeg, h, (ofn_cl v h0).symm⟩
theorem ret_0 {s : SG} (h0 : 0 ≤ (s 109 1).toInt) (h1 : (s 109 1).toNatClampNeg ≤ 23) : KC0 (F_takeCrew s) := by
  have ft := fr_takeCrew s
  have C := crC h0 h1
  have hn : (rowN (s 109 1) (F_crewFault s)).toNatClampNeg ≤ 8 := by
    apply Decidable.byContradiction
    intro q
    have := rowLt h0 h1 (k := 8) (x := F_crewFault s) (by omega)
    omega
  have T := tkC hn
  have e9 : F_takeCrew s 109 1 = s 109 1 := ft 109 1 rfl
  have e10 : F_takeCrew s 110 = s 110 := funext (fun j => ft 110 j rfl)
  generalize F_takeCrew s = z at *
  refine ⟨⟨F_crewFault s, by rw [e9, e10]; exact C, by rw [T.1, e9]⟩, fun k hk => ?_⟩
  rw [T.1] at hk
  rw [e10]
  exact T.2 k hk
theorem ret_1 (s : SG) : KC1 (F_takeRates s) := by
  have ft := fr_takeRates s
  have T := tkR s
  have e9 : F_takeRates s 111 1 = s 111 1 := ft 111 1 rfl
  have e10 : F_takeRates s 112 = s 112 := funext (fun j => ft 112 j rfl)
  generalize F_takeRates s = z at *
  intro t ht
  rw [e9, e10]
  exact T t ht
theorem ret_2 (s : SG) : KC2 (F_takeRudder s) := by
  have ft := fr_takeRudder s
  have T := tkD s
  have e9 : F_takeRudder s 113 1 = s 113 1 := ft 113 1 rfl
  have e10 : F_takeRudder s 114 = s 114 := funext (fun j => ft 114 j rfl)
  generalize F_takeRudder s = z at *
  intro t ht
  rw [e9, e10]
  exact T t ht
theorem KU.put_0 {s f : SG} {L : Nat} {b : Int32} (h : KU s) (hL : s 124 0 = Int32.ofNat L) (hc : L < 23) (ag : Ag [(111, 112, none), (113, 114, none), (124, 124, some 1), (124, 124, some 2)] s f) (e1 : f 109 1 = Int32.ofNat (L + 1)) (e2 : f 124 0 = Int32.ofNat (L + 1)) (e3 : ∀ k, f 110 k = if k = L then b else s 110 k) (e4 : ∀ k, f 125 k = if k = L then b else s 125 k) : KU f := by
  have c1 : (Int32.ofNat (L + 1)).toNatClampNeg = L + 1 := ofn_c (by omega)
  have c2 : (Int32.ofNat L).toNatClampNeg = L := ofn_c (by omega)
  have c3 : (Int32.ofNat (L + 1)).toInt = ((L + 1 : Nat) : Int) := ofn_int (by omega)
  obtain ⟨⟨⟨l0, l1, l2, l3⟩, n0, n1, n2, t0, t1, t2⟩, u1, u2⟩ := h
  have g1 : f 124 1 = s 124 1 := ag 124 1 rfl
  have a1 : f 111 1 = s 111 1 := ag 111 1 rfl
  have b1 : f 112 = s 112 := funext (fun j => ag 112 j rfl)
  have g2 : f 124 2 = s 124 2 := ag 124 2 rfl
  have a2 : f 113 1 = s 113 1 := ag 113 1 rfl
  have b2 : f 114 = s 114 := funext (fun j => ag 114 j rfl)
  unfold KU KT lnM
  rw [e1, e2, c1, g1, a1, b1, g2, a2, b2]
  rw [hL, c2] at t0
  exact ⟨⟨⟨by rw [c3]; omega, by omega, l2, l3⟩, rfl, n1, n2, (fun k hk => by
    rw [e3, e4]
    by_cases q : k = L
    · rw [if_pos q, if_pos (by omega)]
    · rw [if_neg q, if_neg (by omega)]
      exact t0 k (by omega)), (fun k hk => by
    have w : 24 * 1 + k < 24 * 0 ∨ 24 * 0 + 24 ≤ 24 * 1 + k := by omega
    rw [e4, if_neg (by omega)]
    exact t1 k hk), (fun k hk => by
    have w : 24 * 2 + k < 24 * 0 ∨ 24 * 0 + 24 ≤ 24 * 2 + k := by omega
    rw [e4, if_neg (by omega)]
    exact t2 k hk)⟩, u1, u2⟩
theorem KU.cut_0 {s f : SG} {L M : Nat} (h : KU s) (hL : s 124 0 = Int32.ofNat L) (hc : L ≤ 23) (hM : M ≤ L) (ag : Ag [(111, 112, none), (113, 114, none), (124, 124, some 1), (124, 124, some 2)] s f) (e1 : f 109 1 = Int32.ofNat M) (e2 : f 124 0 = Int32.ofNat M) (e3 : f 110 = s 110) (e4 : f 125 = s 125) : KU f := by
  have c1 : (Int32.ofNat M).toNatClampNeg = M := ofn_c (by omega)
  have c2 : (Int32.ofNat L).toNatClampNeg = L := ofn_c (by omega)
  have c3 : (Int32.ofNat M).toInt = (M : Int) := ofn_int (by omega)
  obtain ⟨⟨⟨l0, l1, l2, l3⟩, n0, n1, n2, t0, t1, t2⟩, u1, u2⟩ := h
  have g1 : f 124 1 = s 124 1 := ag 124 1 rfl
  have a1 : f 111 1 = s 111 1 := ag 111 1 rfl
  have b1 : f 112 = s 112 := funext (fun j => ag 112 j rfl)
  have g2 : f 124 2 = s 124 2 := ag 124 2 rfl
  have a2 : f 113 1 = s 113 1 := ag 113 1 rfl
  have b2 : f 114 = s 114 := funext (fun j => ag 114 j rfl)
  unfold KU KT lnM
  rw [e1, e2, e3, e4, c1, g1, a1, b1, g2, a2, b2]
  rw [hL, c2] at t0
  exact ⟨⟨⟨by rw [c3]; omega, by omega, l2, l3⟩, rfl, n1, n2, (fun k hk => t0 k (by omega)), t1, t2⟩, u1, u2⟩
theorem KU.put_1 {s f : SG} {L : Nat} {b : Int32} (h : KU s) (hL : s 124 1 = Int32.ofNat L) (hc : L < 24) (ag : Ag [(109, 110, none), (113, 114, none), (124, 124, some 0), (124, 124, some 2)] s f) (e1 : f 111 1 = Int32.ofNat (L + 1)) (e2 : f 124 1 = Int32.ofNat (L + 1)) (e3 : ∀ k, f 112 k = if k = L then b else s 112 k) (e4 : ∀ k, f 125 k = if k = 24 * 1 + L then b else s 125 k) : KU f := by
  have c1 : (Int32.ofNat (L + 1)).toNatClampNeg = L + 1 := ofn_c (by omega)
  have c2 : (Int32.ofNat L).toNatClampNeg = L := ofn_c (by omega)
  have c3 : (Int32.ofNat (L + 1)).toInt = ((L + 1 : Nat) : Int) := ofn_int (by omega)
  obtain ⟨⟨⟨l0, l1, l2, l3⟩, n0, n1, n2, t0, t1, t2⟩, u1, u2⟩ := h
  have g0 : f 124 0 = s 124 0 := ag 124 0 rfl
  have a0 : f 109 1 = s 109 1 := ag 109 1 rfl
  have b0 : f 110 = s 110 := funext (fun j => ag 110 j rfl)
  have g2 : f 124 2 = s 124 2 := ag 124 2 rfl
  have a2 : f 113 1 = s 113 1 := ag 113 1 rfl
  have b2 : f 114 = s 114 := funext (fun j => ag 114 j rfl)
  unfold KU KT lnM
  rw [e1, e2, c1, g0, a0, b0, g2, a2, b2]
  rw [hL, c2] at t1
  exact ⟨⟨⟨l0, l1, by omega, l3⟩, n0, rfl, n2, (fun k hk => by
    have w : k < 24 * 1 ∨ 24 * 1 + 24 ≤ k := by omega
    rw [e4, if_neg (by omega)]
    exact t0 k hk), (fun k hk => by
    rw [e3, e4]
    by_cases q : k = L
    · rw [if_pos q, if_pos (by omega)]
    · rw [if_neg q, if_neg (by omega)]
      exact t1 k (by omega)), (fun k hk => by
    have w : 24 * 2 + k < 24 * 1 ∨ 24 * 1 + 24 ≤ 24 * 2 + k := by omega
    rw [e4, if_neg (by omega)]
    exact t2 k hk)⟩, by rw [c3]; omega, u2⟩
theorem KU.cut_1 {s f : SG} {L M : Nat} (h : KU s) (hL : s 124 1 = Int32.ofNat L) (hc : L ≤ 24) (hM : M ≤ L) (ag : Ag [(109, 110, none), (113, 114, none), (124, 124, some 0), (124, 124, some 2)] s f) (e1 : f 111 1 = Int32.ofNat M) (e2 : f 124 1 = Int32.ofNat M) (e3 : f 112 = s 112) (e4 : f 125 = s 125) : KU f := by
  have c1 : (Int32.ofNat M).toNatClampNeg = M := ofn_c (by omega)
  have c2 : (Int32.ofNat L).toNatClampNeg = L := ofn_c (by omega)
  have c3 : (Int32.ofNat M).toInt = (M : Int) := ofn_int (by omega)
  obtain ⟨⟨⟨l0, l1, l2, l3⟩, n0, n1, n2, t0, t1, t2⟩, u1, u2⟩ := h
  have g0 : f 124 0 = s 124 0 := ag 124 0 rfl
  have a0 : f 109 1 = s 109 1 := ag 109 1 rfl
  have b0 : f 110 = s 110 := funext (fun j => ag 110 j rfl)
  have g2 : f 124 2 = s 124 2 := ag 124 2 rfl
  have a2 : f 113 1 = s 113 1 := ag 113 1 rfl
  have b2 : f 114 = s 114 := funext (fun j => ag 114 j rfl)
  unfold KU KT lnM
  rw [e1, e2, e3, e4, c1, g0, a0, b0, g2, a2, b2]
  rw [hL, c2] at t1
  exact ⟨⟨⟨l0, l1, by omega, l3⟩, n0, rfl, n2, t0, (fun k hk => t1 k (by omega)), t2⟩, by rw [c3]; omega, u2⟩
theorem KU.put_2 {s f : SG} {L : Nat} {b : Int32} (h : KU s) (hL : s 124 2 = Int32.ofNat L) (hc : L < 24) (ag : Ag [(109, 110, none), (111, 112, none), (124, 124, some 0), (124, 124, some 1)] s f) (e1 : f 113 1 = Int32.ofNat (L + 1)) (e2 : f 124 2 = Int32.ofNat (L + 1)) (e3 : ∀ k, f 114 k = if k = L then b else s 114 k) (e4 : ∀ k, f 125 k = if k = 24 * 2 + L then b else s 125 k) : KU f := by
  have c1 : (Int32.ofNat (L + 1)).toNatClampNeg = L + 1 := ofn_c (by omega)
  have c2 : (Int32.ofNat L).toNatClampNeg = L := ofn_c (by omega)
  have c3 : (Int32.ofNat (L + 1)).toInt = ((L + 1 : Nat) : Int) := ofn_int (by omega)
  obtain ⟨⟨⟨l0, l1, l2, l3⟩, n0, n1, n2, t0, t1, t2⟩, u1, u2⟩ := h
  have g0 : f 124 0 = s 124 0 := ag 124 0 rfl
  have a0 : f 109 1 = s 109 1 := ag 109 1 rfl
  have b0 : f 110 = s 110 := funext (fun j => ag 110 j rfl)
  have g1 : f 124 1 = s 124 1 := ag 124 1 rfl
  have a1 : f 111 1 = s 111 1 := ag 111 1 rfl
  have b1 : f 112 = s 112 := funext (fun j => ag 112 j rfl)
  unfold KU KT lnM
  rw [e1, e2, c1, g0, a0, b0, g1, a1, b1]
  rw [hL, c2] at t2
  exact ⟨⟨⟨l0, l1, l2, by omega⟩, n0, n1, rfl, (fun k hk => by
    have w : k < 24 * 2 ∨ 24 * 2 + 24 ≤ k := by omega
    rw [e4, if_neg (by omega)]
    exact t0 k hk), (fun k hk => by
    have w : 24 * 1 + k < 24 * 2 ∨ 24 * 2 + 24 ≤ 24 * 1 + k := by omega
    rw [e4, if_neg (by omega)]
    exact t1 k hk), (fun k hk => by
    rw [e3, e4]
    by_cases q : k = L
    · rw [if_pos q, if_pos (by omega)]
    · rw [if_neg q, if_neg (by omega)]
      exact t2 k (by omega))⟩, u1, by rw [c3]; omega⟩
theorem KU.cut_2 {s f : SG} {L M : Nat} (h : KU s) (hL : s 124 2 = Int32.ofNat L) (hc : L ≤ 24) (hM : M ≤ L) (ag : Ag [(109, 110, none), (111, 112, none), (124, 124, some 0), (124, 124, some 1)] s f) (e1 : f 113 1 = Int32.ofNat M) (e2 : f 124 2 = Int32.ofNat M) (e3 : f 114 = s 114) (e4 : f 125 = s 125) : KU f := by
  have c1 : (Int32.ofNat M).toNatClampNeg = M := ofn_c (by omega)
  have c2 : (Int32.ofNat L).toNatClampNeg = L := ofn_c (by omega)
  have c3 : (Int32.ofNat M).toInt = (M : Int) := ofn_int (by omega)
  obtain ⟨⟨⟨l0, l1, l2, l3⟩, n0, n1, n2, t0, t1, t2⟩, u1, u2⟩ := h
  have g0 : f 124 0 = s 124 0 := ag 124 0 rfl
  have a0 : f 109 1 = s 109 1 := ag 109 1 rfl
  have b0 : f 110 = s 110 := funext (fun j => ag 110 j rfl)
  have g1 : f 124 1 = s 124 1 := ag 124 1 rfl
  have a1 : f 111 1 = s 111 1 := ag 111 1 rfl
  have b1 : f 112 = s 112 := funext (fun j => ag 112 j rfl)
  unfold KU KT lnM
  rw [e1, e2, e3, e4, c1, g0, a0, b0, g1, a1, b1]
  rw [hL, c2] at t2
  exact ⟨⟨⟨l0, l1, l2, by omega⟩, n0, n1, rfl, t0, t1, (fun k hk => t2 k (by omega))⟩, u1, by rw [c3]; omega⟩
end
