/-! the class: the whole trip (printed by wip/u/mk_row3.py) -/
theorem gt_le (x y : Int32) : m_cmp .gt x y = !(m_cmp .le x y) := by
  cases c : m_cmp .le x y with
  | true =>
    have h1 := mle_iff.mp c
    cases d : m_cmp .gt x y with
    | true =>
      have := m_gt_iff.mp d
      omega
    | false => rfl
  | false =>
    have h1 := m_ff mle_iff c
    exact m_gt_iff.mpr (by omega)
theorem phC_a {z : SG} {J : TI} {t : Nat} {x : TS} (h1 : z 13 t = jra J t) (h2 : z 18 t = (lrs J t x (jn J)).1) (h3 : z 19 t = (lrs J t x (jn J)).2) (h4 : z 14 t = jru J t) (h5 : z 51 t = (jbe J t).2.1) : F_placeBehind_a z t (spl' x) = (pl' J t x, bif grd J t x then uset z 20 t 1 else z) := by
  unfold F_placeBehind_a
  dsimp only
  rw [h1, h2, h3, h4, h5]
  show (bif m_cmp .le (beh J t x) 0 then ((bif m_cmp .gt (beh J t x) 0 then (20 : Int32) else (0 : Int32)), (uset z 20 t 1)) else (bif m_cmp .ge (beh J t x) 20 then ((bif m_cmp .gt (beh J t x) 0 then (20 : Int32) else (0 : Int32)), (uset z 20 t 1)) else (beh J t x, z))) = _
  unfold pl' grd
  rw [gt_le]
  cases m_cmp .le (beh J t x) 0
  · cases m_cmp .ge (beh J t x) 20 <;> rfl
  · rfl
theorem meC_a {z : SG} {J : TI} {t : Nat} {x : TS} (h1 : z 13 t = jra J t) (h2 : z 18 t = (lrs J t x (jn J)).1) (h3 : z 19 t = (lrs J t x (jn J)).2) (h4 : z 10 5 = jst J) (h5 : z 52 t = (jbe J t).2.2) (h6 : z 20 t = 0) : F_metresIn_a (bif grd J t x then uset z 20 t 1 else z) t = (bif grd J t x then way J t x / 2 else way J t x) := by
  cases grd J t x with
  | true =>
    show (bif m_cmp .ne (uset z 20 t 1 20 t) 1 then ((z 13 t * ((z 18 t + z 19 t) / 2)) + z 10 5) + z 52 t else (((z 13 t * ((z 18 t + z 19 t) / 2)) + z 10 5) + z 52 t) / 2) = _
    rw [uset_eq, h1, h2, h3, h4, h5]
    rfl
  | false =>
    show (bif m_cmp .ne (z 20 t) 1 then ((z 13 t * ((z 18 t + z 19 t) / 2)) + z 10 5) + z 52 t else (((z 13 t * ((z 18 t + z 19 t) / 2)) + z 10 5) + z 52 t) / 2) = _
    rw [h6, h1, h2, h3, h4, h5]
    rfl
/-- what the class makes of its own and of the events -/
def inC_a (s : SG) (mask : Int32) : TI := ((s 10 0).toNatClampNeg, s 11, s 12, fun k => Int32.ofNat k, s 13, s 14, s 10 5, s 10 6, befC s mask)
def OuC_a (J : TI) (i : Nat) (a : SG) : Prop := ∀ t, t < i → a 16 t = sme (trip J (t + 1)) ∧ a 17 t = spl' (trip J (t + 1)) ∧ a 18 t = (lrs J t (trip J t) (jn J)).1 ∧ a 19 t = (lrs J t (trip J t) (jn J)).2 ∧ a 20 t = gr' J t (trip J t) ∧ ∀ k, k < jn J → a (22 + t) k = pul J t (trip J t) k
def RoC_a (s : SG) (J : TI) (i : Nat) (a : SG × Int32 × Int32) : Prop := Fr W_row_a s a.1 ∧ a.2.1 = sme (trip J i) ∧ a.2.2 = spl' (trip J i) ∧ a.1 15 8 = sth (trip J i) ∧ (∀ k, k < jn J → a.1 46 k = smn (trip J i) k ∧ a.1 47 k = ssm (trip J i) k ∧ a.1 48 k = frs (jso J k) (jpo J k) ∧ a.1 49 k = ltr (jso J k) (jpo J k)) ∧ (∀ t, t < 24 → a.1 50 t = (jbe J t).1 ∧ a.1 51 t = (jbe J t).2.1 ∧ a.1 52 t = (jbe J t).2.2) ∧ OuC_a J i a.1
theorem roS_a {s : SG} {mask : Int32} {t : Nat} {a : SG × Int32 × Int32} (ht : t < 24) (hn8 : (s 10 0).toNatClampNeg ≤ 8) (h : RoC_a s (inC_a s mask) t a) : RoC_a s (inC_a s mask) (t + 1) (B_row_a_16 t a) := by
  obtain ⟨f, r1, r2, r3, r4, r5, r6⟩ := h
  have hfr := f.tr (fr_B_row_a_16 t a ht)
  generalize hJ : inC_a s mask = J at *
  have j0 : jn J = (s 10 0).toNatClampNeg := by rw [← hJ]; rfl
  have j3 : jra J = s 13 := by rw [← hJ]; rfl
  have j4 : jru J = s 14 := by rw [← hJ]; rfl
  have j5 : jst J = s 10 5 := by rw [← hJ]; rfl
  have j6 : jho J = s 10 6 := by rw [← hJ]; rfl
  have js : ∀ k, jse J k = Int32.ofNat k := fun k => by rw [← hJ]; rfl
  have P := puC_a (s := uset a.1 20 t 0) (J := J) (t := t) (x := trip J t) ht (by rw [j0]; show _ = (a.1 10 0).toNatClampNeg; rw [f 10 0 rfl]) (by rw [j0]; exact hn8) (fun k _ => js k) (by show a.1 13 t = _; rw [f 13 t rfl, j3]) (r5 t ht).1 r3 (fun k hk => (r4 k hk).2.2.1) (fun k hk => (r4 k hk).2.2.2) (fun k hk => (r4 k hk).1) (fun k hk => (r4 k hk).2.1)
  have fp := fr_pullAll_a (uset a.1 20 t 0) t ht
  obtain ⟨p1, p2, p3, p4, p5⟩ := P
  have hB : B_row_a_16 t a = (let w := (bif m_cmp .ne (F_pullAll_a (uset a.1 20 t 0) t 15 8) (-1) then (a.2.1, a.2.2, F_pullAll_a (uset a.1 20 t 0) t) else ((a.2.1 + (F_metresIn_a (F_placeBehind_a (F_pullAll_a (uset a.1 20 t 0) t) t a.2.2).2 t)), (F_placeBehind_a (F_pullAll_a (uset a.1 20 t 0) t) t a.2.2).1, (bif m_cmp .lt (a.2.1 + (F_metresIn_a (F_placeBehind_a (F_pullAll_a (uset a.1 20 t 0) t) t a.2.2).2 t)) ((F_placeBehind_a (F_pullAll_a (uset a.1 20 t 0) t) t a.2.2).2 10 6) then (F_placeBehind_a (F_pullAll_a (uset a.1 20 t 0) t) t a.2.2).2 else (uset (F_placeBehind_a (F_pullAll_a (uset a.1 20 t 0) t) t a.2.2).2 15 8 (Int32.ofNat t)))) : Int32 × Int32 × SG); ((uset (uset w.2.2 16 t w.1) 17 t w.2.1), w.1, w.2.1)) := rfl
  rw [hB] at hfr ⊢
  have q5 : F_pullAll_a (uset a.1 20 t 0) t 20 t = 0 := (fp 20 t rfl).trans (uset_eq _ _ _ _)
  have q5n : ∀ j, j ≠ t → F_pullAll_a (uset a.1 20 t 0) t 20 j = a.1 20 j := fun j hj => (fp 20 j rfl).trans (uset_nj hj)
  have q1 : ∀ j, F_pullAll_a (uset a.1 20 t 0) t 16 j = a.1 16 j := fun j => fp 16 j rfl
  have q2 : ∀ j, F_pullAll_a (uset a.1 20 t 0) t 17 j = a.1 17 j := fun j => fp 17 j rfl
  have q8 : F_pullAll_a (uset a.1 20 t 0) t 15 8 = sth (trip J t) := (fp 15 8 rfl).trans r3
  have q33 : ∀ j, F_pullAll_a (uset a.1 20 t 0) t 48 j = a.1 48 j := fun j => fp 48 j rfl
  have q34 : ∀ j, F_pullAll_a (uset a.1 20 t 0) t 49 j = a.1 49 j := fun j => fp 49 j rfl
  have q35 : ∀ j, F_pullAll_a (uset a.1 20 t 0) t 50 j = a.1 50 j := fun j => fp 50 j rfl
  have q36 : ∀ j, F_pullAll_a (uset a.1 20 t 0) t 51 j = a.1 51 j := fun j => fp 51 j rfl
  have q37 : ∀ j, F_pullAll_a (uset a.1 20 t 0) t 52 j = a.1 52 j := fun j => fp 52 j rfl
  have c3 : F_pullAll_a (uset a.1 20 t 0) t 13 t = jra J t := (fp 13 t rfl).trans (by show a.1 13 t = _; rw [f 13 t rfl, j3])
  have c4 : F_pullAll_a (uset a.1 20 t 0) t 14 t = jru J t := (fp 14 t rfl).trans (by show a.1 14 t = _; rw [f 14 t rfl, j4])
  have c05 : F_pullAll_a (uset a.1 20 t 0) t 10 5 = jst J := (fp 10 5 rfl).trans (by show a.1 10 5 = _; rw [f 10 5 rfl, j5])
  have c06 : F_pullAll_a (uset a.1 20 t 0) t 10 6 = jho J := (fp 10 6 rfl).trans (by show a.1 10 6 = _; rw [f 10 6 rfl, j6])
  have hph := phC_a (z := F_pullAll_a (uset a.1 20 t 0) t) (x := trip J t) c3 p1 p2 c4 ((q36 t).trans (r5 t ht).2.1)
  have hme := meC_a (z := F_pullAll_a (uset a.1 20 t 0) t) (x := trip J t) c3 p1 p2 c05 ((q37 t).trans (r5 t ht).2.2) q5
  rw [r2, hph, hme, r1, q8] at hfr ⊢
  generalize F_pullAll_a (uset a.1 20 t 0) t = z at *
  have hW : ∃ Z : SG, (bif m_cmp .ne (sth (trip J t)) (-1) then (sme (trip J t), spl' (trip J t), z) else ((sme (trip J t) + (bif grd J t (trip J t) then way J t (trip J t) / 2 else way J t (trip J t))), pl' J t (trip J t), (bif m_cmp .lt (sme (trip J t) + (bif grd J t (trip J t) then way J t (trip J t) / 2 else way J t (trip J t))) ((bif grd J t (trip J t) then uset z 20 t 1 else z) 10 6) then (bif grd J t (trip J t) then uset z 20 t 1 else z) else (uset (bif grd J t (trip J t) then uset z 20 t 1 else z) 15 8 (Int32.ofNat t)))) : Int32 × Int32 × SG) = (sme (trip J (t + 1)), spl' (trip J (t + 1)), Z) ∧ Z 15 8 = sth (trip J (t + 1)) ∧ (∀ j, Z 20 j = if j = t then gr' J t (trip J t) else z 20 j) ∧ ∀ b j, b ≠ 20 → b ≠ 15 → Z b j = z b j := by
    have hG : ∀ j, (bif grd J t (trip J t) then uset z 20 t 1 else z) 20 j = if j = t then (bif grd J t (trip J t) then 1 else 0) else z 20 j := fun j => by
      by_cases e : j = t
      · subst e
        rw [if_pos rfl]
        cases grd J j (trip J j)
        · exact q5
        · exact uset_eq _ _ _ _
      · rw [if_neg e]
        cases grd J t (trip J t)
        · rfl
        · exact uset_nj e
    have hG2 : ∀ b j, b ≠ 20 → (bif grd J t (trip J t) then uset z 20 t 1 else z) b j = z b j := fun b j hb => by
      cases grd J t (trip J t)
      · rfl
      · exact uset_na hb
    show ∃ Z : SG, _ = (sme (tst J t (trip J t)), spl' (tst J t (trip J t)), Z) ∧ Z 15 8 = sth (tst J t (trip J t)) ∧ _
    unfold tst gr'
    cases c : m_cmp .ne (sth (trip J t)) (-1) with
    | true =>
      refine ⟨z, rfl, q8, fun j => ?_, fun b j _ _ => rfl⟩
      by_cases e : j = t
      · rw [if_pos e, e]
        exact q5
      · rw [if_neg e]
    | false =>
      have h1 : sth (trip J t) = -1 := Decidable.of_not_not (m_ff m_ne_iff c)
      rw [hG2 10 6 (by decide), c06]
      refine ⟨_, rfl, ?_, fun j => ?_, fun b j hb hc => ?_⟩
      · show (bif m_cmp .lt (me' J t (trip J t)) (jho J) then (bif grd J t (trip J t) then uset z 20 t 1 else z) else (uset (bif grd J t (trip J t) then uset z 20 t 1 else z) 15 8 (Int32.ofNat t))) 15 8 = (bif m_cmp .lt (me' J t (trip J t)) (jho J) then -1 else Int32.ofNat t)
        cases m_cmp .lt (me' J t (trip J t)) (jho J)
        · exact uset_eq _ _ _ _
        · show (bif grd J t (trip J t) then uset z 20 t 1 else z) 15 8 = -1
          rw [hG2 15 8 (by decide), q8, h1]
      · show (bif m_cmp .lt (me' J t (trip J t)) (jho J) then (bif grd J t (trip J t) then uset z 20 t 1 else z) else (uset (bif grd J t (trip J t) then uset z 20 t 1 else z) 15 8 (Int32.ofNat t))) 20 j = _
        refine Eq.trans ?_ (hG j)
        cases m_cmp .lt (me' J t (trip J t)) (jho J)
        · exact uset_na (by decide)
        · rfl
      · show (bif m_cmp .lt (me' J t (trip J t)) (jho J) then (bif grd J t (trip J t) then uset z 20 t 1 else z) else (uset (bif grd J t (trip J t) then uset z 20 t 1 else z) 15 8 (Int32.ofNat t))) b j = _
        rw [← hG2 b j hb]
        cases m_cmp .lt (me' J t (trip J t)) (jho J)
        · exact uset_na hc
        · rfl
  obtain ⟨Z, eZ, z8, z5, zo⟩ := hW
  rw [eZ] at hfr ⊢
  dsimp only at hfr ⊢
  have hb7 : ∀ t2, t2 < 24 → 22 + t2 ≠ 20 ∧ 22 + t2 ≠ 15 ∧ 22 + t2 ≠ 16 ∧ 22 + t2 ≠ 17 := fun t2 _ => by omega
  refine ⟨hfr, rfl, rfl, z8, fun k hk => ?_, fun t2 ht2 => ?_, fun t2 ht2 => ?_⟩
  · show Z 46 k = _ ∧ Z 47 k = _ ∧ Z 48 k = _ ∧ Z 49 k = _
    rw [zo 46 k (by decide) (by decide), zo 47 k (by decide) (by decide), zo 48 k (by decide) (by decide), zo 49 k (by decide) (by decide), q33, q34]
    exact ⟨(p4 k hk).1, (p4 k hk).2.1, (r4 k hk).2.2.1, (r4 k hk).2.2.2⟩
  · show Z 50 t2 = _ ∧ Z 51 t2 = _ ∧ Z 52 t2 = _
    rw [zo 50 t2 (by decide) (by decide), zo 51 t2 (by decide) (by decide), zo 52 t2 (by decide) (by decide), q35, q36, q37]
    exact r5 t2 ht2
  · have ht3 : t2 < 24 := by omega
    obtain ⟨n1, n2, n3, n4⟩ := hb7 t2 ht3
    show uset Z 16 t (sme (trip J (t + 1))) 16 t2 = _ ∧ uset (uset Z 16 t _) 17 t (spl' (trip J (t + 1))) 17 t2 = _ ∧ Z 18 t2 = _ ∧ Z 19 t2 = _ ∧ Z 20 t2 = _ ∧ ∀ k, k < jn J → uset (uset Z 16 t _) 17 t _ (22 + t2) k = _
    rw [zo 18 t2 (by decide) (by decide), zo 19 t2 (by decide) (by decide), z5 t2]
    by_cases q : t2 = t
    · subst q
      rw [uset_eq, uset_eq, if_pos rfl]
      refine ⟨rfl, rfl, p1, p2, rfl, fun k hk => ?_⟩
      rw [uset_na n4, uset_na n3, zo _ k n1 n2]
      exact (p4 k hk).2.2
    · obtain ⟨o1, o2, o3, o4, o5, o6⟩ := r6 t2 (by omega)
      rw [uset_nj q, uset_nj q, uset_na (by decide), zo 16 t2 (by decide) (by decide), zo 17 t2 (by decide) (by decide), q1, q2, (p3 t2 q).1, (p3 t2 q).2, if_neg q, q5n t2 q]
      refine ⟨o1, o2, o3, o4, o5, fun k hk => ?_⟩
      rw [uset_na n4, uset_na n3, zo _ k n1 n2, p5 (22 + t2) k (by omega) (by omega) (by omega)]
      show uset a.1 20 t 0 (22 + t2) k = _
      rw [uset_na n1]
      exact o6 k hk
theorem rowC_a {s : SG} {mask : Int32} (hn8 : (s 10 0).toNatClampNeg ≤ 8) (hev : evC s) : ∃ m p, RoC_a s (inC_a s mask) 24 (F_row_a s mask, m, p) := by
  have fe := fr_takeEvents_a s mask
  have ft := fr_takeRowers_a (F_takeEvents_a s mask)
  have te := teC_a s mask hev
  have tr := trC_a (F_takeEvents_a s mask)
  have e0 : F_takeEvents_a s mask 10 0 = s 10 0 := fe 10 0 rfl
  rw [e0] at tr
  have k0 : RoC_a s (inC_a s mask) 0 (uset (F_takeRowers_a (F_takeEvents_a s mask)) 15 8 (-1), 0, 10) := by
    refine ⟨Fr.uset (by rfl) (Fr.tr (Fr.wk fe (by rfl)) (Fr.wk ft (by rfl))), rfl, rfl, rfl, fun k hk => ?_, fun t ht => ?_, fun t ht => absurd ht (by omega)⟩
    · obtain ⟨t1, t2, t3, t4⟩ := tr k hk
      rw [fe 11 k rfl, fe 12 k rfl] at t1 t2
      show F_takeRowers_a (F_takeEvents_a s mask) 46 k = _ ∧ F_takeRowers_a (F_takeEvents_a s mask) 47 k = _ ∧ F_takeRowers_a (F_takeEvents_a s mask) 48 k = _ ∧ F_takeRowers_a (F_takeEvents_a s mask) 49 k = _
      exact ⟨t3, t4, t1, t2⟩
    · show F_takeRowers_a (F_takeEvents_a s mask) 50 t = _ ∧ F_takeRowers_a (F_takeEvents_a s mask) 51 t = _ ∧ F_takeRowers_a (F_takeEvents_a s mask) 52 t = _
      rw [ft 50 t rfl, ft 51 t rfl, ft 52 t rfl]
      have h := te t ht
      show _ = (befC s mask t).1 ∧ _ = (befC s mask t).2.1 ∧ _ = (befC s mask t).2.2
      rw [← h]
      exact ⟨rfl, rfl, rfl⟩
  have key := itr_ind (f := B_row_a_16) (a := (uset (F_takeRowers_a (F_takeEvents_a s mask)) 15 8 (-1), 0, 10)) (RoC_a s (inC_a s mask)) 24 k0 (fun i a hi h => roS_a hi hn8 h) 24 (Nat.le_refl _)
  exact ⟨_, _, key⟩
theorem phC_b {z : SG} {J : TI} {t : Nat} {x : TS} (h1 : z 56 t = jra J t) (h2 : z 61 t = (lrs J t x (jn J)).1) (h3 : z 62 t = (lrs J t x (jn J)).2) (h4 : z 57 t = jru J t) (h5 : z 94 t = (jbe J t).2.1) : F_placeBehind_b z t (spl' x) = (pl' J t x, bif grd J t x then uset z 63 t 1 else z) := by
  unfold F_placeBehind_b
  dsimp only
  rw [h1, h2, h3, h4, h5]
  show (bif m_cmp .le (beh J t x) 0 then ((bif m_cmp .gt (beh J t x) 0 then (20 : Int32) else (0 : Int32)), (uset z 63 t 1)) else (bif m_cmp .ge (beh J t x) 20 then ((bif m_cmp .gt (beh J t x) 0 then (20 : Int32) else (0 : Int32)), (uset z 63 t 1)) else (beh J t x, z))) = _
  unfold pl' grd
  rw [gt_le]
  cases m_cmp .le (beh J t x) 0
  · cases m_cmp .ge (beh J t x) 20 <;> rfl
  · rfl
theorem meC_b {z : SG} {J : TI} {t : Nat} {x : TS} (h1 : z 56 t = jra J t) (h2 : z 61 t = (lrs J t x (jn J)).1) (h3 : z 62 t = (lrs J t x (jn J)).2) (h4 : z 53 5 = jst J) (h5 : z 95 t = (jbe J t).2.2) (h6 : z 63 t = 0) : F_metresIn_b (bif grd J t x then uset z 63 t 1 else z) t = (bif grd J t x then way J t x / 2 else way J t x) := by
  cases grd J t x with
  | true =>
    show (bif m_cmp .ne (uset z 63 t 1 63 t) 1 then ((z 56 t * ((z 61 t + z 62 t) / 2)) + z 53 5) + z 95 t else (((z 56 t * ((z 61 t + z 62 t) / 2)) + z 53 5) + z 95 t) / 2) = _
    rw [uset_eq, h1, h2, h3, h4, h5]
    rfl
  | false =>
    show (bif m_cmp .ne (z 63 t) 1 then ((z 56 t * ((z 61 t + z 62 t) / 2)) + z 53 5) + z 95 t else (((z 56 t * ((z 61 t + z 62 t) / 2)) + z 53 5) + z 95 t) / 2) = _
    rw [h6, h1, h2, h3, h4, h5]
    rfl
/-- what the class makes of its own and of the events -/
def inC_b (s : SG) (mask : Int32) : TI := ((s 53 0).toNatClampNeg, s 54, s 55, fun k => Int32.ofNat k, s 56, s 57, s 53 5, s 53 6, befC s mask)
def OuC_b (J : TI) (i : Nat) (a : SG) : Prop := ∀ t, t < i → a 59 t = sme (trip J (t + 1)) ∧ a 60 t = spl' (trip J (t + 1)) ∧ a 61 t = (lrs J t (trip J t) (jn J)).1 ∧ a 62 t = (lrs J t (trip J t) (jn J)).2 ∧ a 63 t = gr' J t (trip J t) ∧ ∀ k, k < jn J → a (65 + t) k = pul J t (trip J t) k
def RoC_b (s : SG) (J : TI) (i : Nat) (a : SG × Int32 × Int32) : Prop := Fr W_row_b s a.1 ∧ a.2.1 = sme (trip J i) ∧ a.2.2 = spl' (trip J i) ∧ a.1 58 8 = sth (trip J i) ∧ (∀ k, k < jn J → a.1 89 k = smn (trip J i) k ∧ a.1 90 k = ssm (trip J i) k ∧ a.1 91 k = frs (jso J k) (jpo J k) ∧ a.1 92 k = ltr (jso J k) (jpo J k)) ∧ (∀ t, t < 24 → a.1 93 t = (jbe J t).1 ∧ a.1 94 t = (jbe J t).2.1 ∧ a.1 95 t = (jbe J t).2.2) ∧ OuC_b J i a.1
theorem roS_b {s : SG} {mask : Int32} {t : Nat} {a : SG × Int32 × Int32} (ht : t < 24) (hn8 : (s 53 0).toNatClampNeg ≤ 8) (h : RoC_b s (inC_b s mask) t a) : RoC_b s (inC_b s mask) (t + 1) (B_row_b_16 t a) := by
  obtain ⟨f, r1, r2, r3, r4, r5, r6⟩ := h
  have hfr := f.tr (fr_B_row_b_16 t a ht)
  generalize hJ : inC_b s mask = J at *
  have j0 : jn J = (s 53 0).toNatClampNeg := by rw [← hJ]; rfl
  have j3 : jra J = s 56 := by rw [← hJ]; rfl
  have j4 : jru J = s 57 := by rw [← hJ]; rfl
  have j5 : jst J = s 53 5 := by rw [← hJ]; rfl
  have j6 : jho J = s 53 6 := by rw [← hJ]; rfl
  have js : ∀ k, jse J k = Int32.ofNat k := fun k => by rw [← hJ]; rfl
  have P := puC_b (s := uset a.1 63 t 0) (J := J) (t := t) (x := trip J t) ht (by rw [j0]; show _ = (a.1 53 0).toNatClampNeg; rw [f 53 0 rfl]) (by rw [j0]; exact hn8) (fun k _ => js k) (by show a.1 56 t = _; rw [f 56 t rfl, j3]) (r5 t ht).1 r3 (fun k hk => (r4 k hk).2.2.1) (fun k hk => (r4 k hk).2.2.2) (fun k hk => (r4 k hk).1) (fun k hk => (r4 k hk).2.1)
  have fp := fr_pullAll_b (uset a.1 63 t 0) t ht
  obtain ⟨p1, p2, p3, p4, p5⟩ := P
  have hB : B_row_b_16 t a = (let w := (bif m_cmp .ne (F_pullAll_b (uset a.1 63 t 0) t 58 8) (-1) then (a.2.1, a.2.2, F_pullAll_b (uset a.1 63 t 0) t) else ((a.2.1 + (F_metresIn_b (F_placeBehind_b (F_pullAll_b (uset a.1 63 t 0) t) t a.2.2).2 t)), (F_placeBehind_b (F_pullAll_b (uset a.1 63 t 0) t) t a.2.2).1, (bif m_cmp .lt (a.2.1 + (F_metresIn_b (F_placeBehind_b (F_pullAll_b (uset a.1 63 t 0) t) t a.2.2).2 t)) ((F_placeBehind_b (F_pullAll_b (uset a.1 63 t 0) t) t a.2.2).2 53 6) then (F_placeBehind_b (F_pullAll_b (uset a.1 63 t 0) t) t a.2.2).2 else (uset (F_placeBehind_b (F_pullAll_b (uset a.1 63 t 0) t) t a.2.2).2 58 8 (Int32.ofNat t)))) : Int32 × Int32 × SG); ((uset (uset w.2.2 59 t w.1) 60 t w.2.1), w.1, w.2.1)) := rfl
  rw [hB] at hfr ⊢
  have q5 : F_pullAll_b (uset a.1 63 t 0) t 63 t = 0 := (fp 63 t rfl).trans (uset_eq _ _ _ _)
  have q5n : ∀ j, j ≠ t → F_pullAll_b (uset a.1 63 t 0) t 63 j = a.1 63 j := fun j hj => (fp 63 j rfl).trans (uset_nj hj)
  have q1 : ∀ j, F_pullAll_b (uset a.1 63 t 0) t 59 j = a.1 59 j := fun j => fp 59 j rfl
  have q2 : ∀ j, F_pullAll_b (uset a.1 63 t 0) t 60 j = a.1 60 j := fun j => fp 60 j rfl
  have q8 : F_pullAll_b (uset a.1 63 t 0) t 58 8 = sth (trip J t) := (fp 58 8 rfl).trans r3
  have q33 : ∀ j, F_pullAll_b (uset a.1 63 t 0) t 91 j = a.1 91 j := fun j => fp 91 j rfl
  have q34 : ∀ j, F_pullAll_b (uset a.1 63 t 0) t 92 j = a.1 92 j := fun j => fp 92 j rfl
  have q35 : ∀ j, F_pullAll_b (uset a.1 63 t 0) t 93 j = a.1 93 j := fun j => fp 93 j rfl
  have q36 : ∀ j, F_pullAll_b (uset a.1 63 t 0) t 94 j = a.1 94 j := fun j => fp 94 j rfl
  have q37 : ∀ j, F_pullAll_b (uset a.1 63 t 0) t 95 j = a.1 95 j := fun j => fp 95 j rfl
  have c3 : F_pullAll_b (uset a.1 63 t 0) t 56 t = jra J t := (fp 56 t rfl).trans (by show a.1 56 t = _; rw [f 56 t rfl, j3])
  have c4 : F_pullAll_b (uset a.1 63 t 0) t 57 t = jru J t := (fp 57 t rfl).trans (by show a.1 57 t = _; rw [f 57 t rfl, j4])
  have c05 : F_pullAll_b (uset a.1 63 t 0) t 53 5 = jst J := (fp 53 5 rfl).trans (by show a.1 53 5 = _; rw [f 53 5 rfl, j5])
  have c06 : F_pullAll_b (uset a.1 63 t 0) t 53 6 = jho J := (fp 53 6 rfl).trans (by show a.1 53 6 = _; rw [f 53 6 rfl, j6])
  have hph := phC_b (z := F_pullAll_b (uset a.1 63 t 0) t) (x := trip J t) c3 p1 p2 c4 ((q36 t).trans (r5 t ht).2.1)
  have hme := meC_b (z := F_pullAll_b (uset a.1 63 t 0) t) (x := trip J t) c3 p1 p2 c05 ((q37 t).trans (r5 t ht).2.2) q5
  rw [r2, hph, hme, r1, q8] at hfr ⊢
  generalize F_pullAll_b (uset a.1 63 t 0) t = z at *
  have hW : ∃ Z : SG, (bif m_cmp .ne (sth (trip J t)) (-1) then (sme (trip J t), spl' (trip J t), z) else ((sme (trip J t) + (bif grd J t (trip J t) then way J t (trip J t) / 2 else way J t (trip J t))), pl' J t (trip J t), (bif m_cmp .lt (sme (trip J t) + (bif grd J t (trip J t) then way J t (trip J t) / 2 else way J t (trip J t))) ((bif grd J t (trip J t) then uset z 63 t 1 else z) 53 6) then (bif grd J t (trip J t) then uset z 63 t 1 else z) else (uset (bif grd J t (trip J t) then uset z 63 t 1 else z) 58 8 (Int32.ofNat t)))) : Int32 × Int32 × SG) = (sme (trip J (t + 1)), spl' (trip J (t + 1)), Z) ∧ Z 58 8 = sth (trip J (t + 1)) ∧ (∀ j, Z 63 j = if j = t then gr' J t (trip J t) else z 63 j) ∧ ∀ b j, b ≠ 63 → b ≠ 58 → Z b j = z b j := by
    have hG : ∀ j, (bif grd J t (trip J t) then uset z 63 t 1 else z) 63 j = if j = t then (bif grd J t (trip J t) then 1 else 0) else z 63 j := fun j => by
      by_cases e : j = t
      · subst e
        rw [if_pos rfl]
        cases grd J j (trip J j)
        · exact q5
        · exact uset_eq _ _ _ _
      · rw [if_neg e]
        cases grd J t (trip J t)
        · rfl
        · exact uset_nj e
    have hG2 : ∀ b j, b ≠ 63 → (bif grd J t (trip J t) then uset z 63 t 1 else z) b j = z b j := fun b j hb => by
      cases grd J t (trip J t)
      · rfl
      · exact uset_na hb
    show ∃ Z : SG, _ = (sme (tst J t (trip J t)), spl' (tst J t (trip J t)), Z) ∧ Z 58 8 = sth (tst J t (trip J t)) ∧ _
    unfold tst gr'
    cases c : m_cmp .ne (sth (trip J t)) (-1) with
    | true =>
      refine ⟨z, rfl, q8, fun j => ?_, fun b j _ _ => rfl⟩
      by_cases e : j = t
      · rw [if_pos e, e]
        exact q5
      · rw [if_neg e]
    | false =>
      have h1 : sth (trip J t) = -1 := Decidable.of_not_not (m_ff m_ne_iff c)
      rw [hG2 53 6 (by decide), c06]
      refine ⟨_, rfl, ?_, fun j => ?_, fun b j hb hc => ?_⟩
      · show (bif m_cmp .lt (me' J t (trip J t)) (jho J) then (bif grd J t (trip J t) then uset z 63 t 1 else z) else (uset (bif grd J t (trip J t) then uset z 63 t 1 else z) 58 8 (Int32.ofNat t))) 58 8 = (bif m_cmp .lt (me' J t (trip J t)) (jho J) then -1 else Int32.ofNat t)
        cases m_cmp .lt (me' J t (trip J t)) (jho J)
        · exact uset_eq _ _ _ _
        · show (bif grd J t (trip J t) then uset z 63 t 1 else z) 58 8 = -1
          rw [hG2 58 8 (by decide), q8, h1]
      · show (bif m_cmp .lt (me' J t (trip J t)) (jho J) then (bif grd J t (trip J t) then uset z 63 t 1 else z) else (uset (bif grd J t (trip J t) then uset z 63 t 1 else z) 58 8 (Int32.ofNat t))) 63 j = _
        refine Eq.trans ?_ (hG j)
        cases m_cmp .lt (me' J t (trip J t)) (jho J)
        · exact uset_na (by decide)
        · rfl
      · show (bif m_cmp .lt (me' J t (trip J t)) (jho J) then (bif grd J t (trip J t) then uset z 63 t 1 else z) else (uset (bif grd J t (trip J t) then uset z 63 t 1 else z) 58 8 (Int32.ofNat t))) b j = _
        rw [← hG2 b j hb]
        cases m_cmp .lt (me' J t (trip J t)) (jho J)
        · exact uset_na hc
        · rfl
  obtain ⟨Z, eZ, z8, z5, zo⟩ := hW
  rw [eZ] at hfr ⊢
  dsimp only at hfr ⊢
  have hb7 : ∀ t2, t2 < 24 → 65 + t2 ≠ 63 ∧ 65 + t2 ≠ 58 ∧ 65 + t2 ≠ 59 ∧ 65 + t2 ≠ 60 := fun t2 _ => by omega
  refine ⟨hfr, rfl, rfl, z8, fun k hk => ?_, fun t2 ht2 => ?_, fun t2 ht2 => ?_⟩
  · show Z 89 k = _ ∧ Z 90 k = _ ∧ Z 91 k = _ ∧ Z 92 k = _
    rw [zo 89 k (by decide) (by decide), zo 90 k (by decide) (by decide), zo 91 k (by decide) (by decide), zo 92 k (by decide) (by decide), q33, q34]
    exact ⟨(p4 k hk).1, (p4 k hk).2.1, (r4 k hk).2.2.1, (r4 k hk).2.2.2⟩
  · show Z 93 t2 = _ ∧ Z 94 t2 = _ ∧ Z 95 t2 = _
    rw [zo 93 t2 (by decide) (by decide), zo 94 t2 (by decide) (by decide), zo 95 t2 (by decide) (by decide), q35, q36, q37]
    exact r5 t2 ht2
  · have ht3 : t2 < 24 := by omega
    obtain ⟨n1, n2, n3, n4⟩ := hb7 t2 ht3
    show uset Z 59 t (sme (trip J (t + 1))) 59 t2 = _ ∧ uset (uset Z 59 t _) 60 t (spl' (trip J (t + 1))) 60 t2 = _ ∧ Z 61 t2 = _ ∧ Z 62 t2 = _ ∧ Z 63 t2 = _ ∧ ∀ k, k < jn J → uset (uset Z 59 t _) 60 t _ (65 + t2) k = _
    rw [zo 61 t2 (by decide) (by decide), zo 62 t2 (by decide) (by decide), z5 t2]
    by_cases q : t2 = t
    · subst q
      rw [uset_eq, uset_eq, if_pos rfl]
      refine ⟨rfl, rfl, p1, p2, rfl, fun k hk => ?_⟩
      rw [uset_na n4, uset_na n3, zo _ k n1 n2]
      exact (p4 k hk).2.2
    · obtain ⟨o1, o2, o3, o4, o5, o6⟩ := r6 t2 (by omega)
      rw [uset_nj q, uset_nj q, uset_na (by decide), zo 59 t2 (by decide) (by decide), zo 60 t2 (by decide) (by decide), q1, q2, (p3 t2 q).1, (p3 t2 q).2, if_neg q, q5n t2 q]
      refine ⟨o1, o2, o3, o4, o5, fun k hk => ?_⟩
      rw [uset_na n4, uset_na n3, zo _ k n1 n2, p5 (65 + t2) k (by omega) (by omega) (by omega)]
      show uset a.1 63 t 0 (65 + t2) k = _
      rw [uset_na n1]
      exact o6 k hk
theorem rowC_b {s : SG} {mask : Int32} (hn8 : (s 53 0).toNatClampNeg ≤ 8) (hev : evC s) : ∃ m p, RoC_b s (inC_b s mask) 24 (F_row_b s mask, m, p) := by
  have fe := fr_takeEvents_b s mask
  have ft := fr_takeRowers_b (F_takeEvents_b s mask)
  have te := teC_b s mask hev
  have tr := trC_b (F_takeEvents_b s mask)
  have e0 : F_takeEvents_b s mask 53 0 = s 53 0 := fe 53 0 rfl
  rw [e0] at tr
  have k0 : RoC_b s (inC_b s mask) 0 (uset (F_takeRowers_b (F_takeEvents_b s mask)) 58 8 (-1), 0, 10) := by
    refine ⟨Fr.uset (by rfl) (Fr.tr (Fr.wk fe (by rfl)) (Fr.wk ft (by rfl))), rfl, rfl, rfl, fun k hk => ?_, fun t ht => ?_, fun t ht => absurd ht (by omega)⟩
    · obtain ⟨t1, t2, t3, t4⟩ := tr k hk
      rw [fe 54 k rfl, fe 55 k rfl] at t1 t2
      show F_takeRowers_b (F_takeEvents_b s mask) 89 k = _ ∧ F_takeRowers_b (F_takeEvents_b s mask) 90 k = _ ∧ F_takeRowers_b (F_takeEvents_b s mask) 91 k = _ ∧ F_takeRowers_b (F_takeEvents_b s mask) 92 k = _
      exact ⟨t3, t4, t1, t2⟩
    · show F_takeRowers_b (F_takeEvents_b s mask) 93 t = _ ∧ F_takeRowers_b (F_takeEvents_b s mask) 94 t = _ ∧ F_takeRowers_b (F_takeEvents_b s mask) 95 t = _
      rw [ft 93 t rfl, ft 94 t rfl, ft 95 t rfl]
      have h := te t ht
      show _ = (befC s mask t).1 ∧ _ = (befC s mask t).2.1 ∧ _ = (befC s mask t).2.2
      rw [← h]
      exact ⟨rfl, rfl, rfl⟩
  have key := itr_ind (f := B_row_b_16) (a := (uset (F_takeRowers_b (F_takeEvents_b s mask)) 58 8 (-1), 0, 10)) (RoC_b s (inC_b s mask)) 24 k0 (fun i a hi h => roS_b hi hn8 h) 24 (Nat.le_refl _)
  exact ⟨_, _, key⟩
theorem phC_c {z : SG} {J : TI} {t : Nat} {x : TS} (h1 : z 13 t = jra J t) (h2 : z 61 t = (lrs J t x (jn J)).1) (h3 : z 62 t = (lrs J t x (jn J)).2) (h4 : z 14 t = jru J t) (h5 : z 94 t = (jbe J t).2.1) : F_placeBehind_c z t (spl' x) = (pl' J t x, bif grd J t x then uset z 63 t 1 else z) := by
  unfold F_placeBehind_c
  dsimp only
  rw [h1, h2, h3, h4, h5]
  show (bif m_cmp .le (beh J t x) 0 then ((bif m_cmp .gt (beh J t x) 0 then (20 : Int32) else (0 : Int32)), (uset z 63 t 1)) else (bif m_cmp .ge (beh J t x) 20 then ((bif m_cmp .gt (beh J t x) 0 then (20 : Int32) else (0 : Int32)), (uset z 63 t 1)) else (beh J t x, z))) = _
  unfold pl' grd
  rw [gt_le]
  cases m_cmp .le (beh J t x) 0
  · cases m_cmp .ge (beh J t x) 20 <;> rfl
  · rfl
theorem meC_c {z : SG} {J : TI} {t : Nat} {x : TS} (h1 : z 13 t = jra J t) (h2 : z 61 t = (lrs J t x (jn J)).1) (h3 : z 62 t = (lrs J t x (jn J)).2) (h4 : z 10 5 = jst J) (h5 : z 95 t = (jbe J t).2.2) (h6 : z 63 t = 0) : F_metresIn_c (bif grd J t x then uset z 63 t 1 else z) t = (bif grd J t x then way J t x / 2 else way J t x) := by
  cases grd J t x with
  | true =>
    show (bif m_cmp .ne (uset z 63 t 1 63 t) 1 then ((z 13 t * ((z 61 t + z 62 t) / 2)) + z 10 5) + z 95 t else (((z 13 t * ((z 61 t + z 62 t) / 2)) + z 10 5) + z 95 t) / 2) = _
    rw [uset_eq, h1, h2, h3, h4, h5]
    rfl
  | false =>
    show (bif m_cmp .ne (z 63 t) 1 then ((z 13 t * ((z 61 t + z 62 t) / 2)) + z 10 5) + z 95 t else (((z 13 t * ((z 61 t + z 62 t) / 2)) + z 10 5) + z 95 t) / 2) = _
    rw [h6, h1, h2, h3, h4, h5]
    rfl
/-- what the class makes of its own and of the events -/
def inC_c (s : SG) (mask : Int32) : TI := ((s 10 0).toNatClampNeg, s 11, s 12, fun k => Int32.ofNat k, s 13, s 14, s 10 5, s 10 6, befC s mask)
def OuC_c (J : TI) (i : Nat) (a : SG) : Prop := ∀ t, t < i → a 59 t = sme (trip J (t + 1)) ∧ a 60 t = spl' (trip J (t + 1)) ∧ a 61 t = (lrs J t (trip J t) (jn J)).1 ∧ a 62 t = (lrs J t (trip J t) (jn J)).2 ∧ a 63 t = gr' J t (trip J t) ∧ ∀ k, k < jn J → a (65 + t) k = pul J t (trip J t) k
def RoC_c (s : SG) (J : TI) (i : Nat) (a : SG × Int32 × Int32) : Prop := Fr W_row_c s a.1 ∧ a.2.1 = sme (trip J i) ∧ a.2.2 = spl' (trip J i) ∧ a.1 58 8 = sth (trip J i) ∧ (∀ k, k < jn J → a.1 89 k = smn (trip J i) k ∧ a.1 90 k = ssm (trip J i) k ∧ a.1 91 k = frs (jso J k) (jpo J k) ∧ a.1 92 k = ltr (jso J k) (jpo J k)) ∧ (∀ t, t < 24 → a.1 93 t = (jbe J t).1 ∧ a.1 94 t = (jbe J t).2.1 ∧ a.1 95 t = (jbe J t).2.2) ∧ OuC_c J i a.1
theorem roS_c {s : SG} {mask : Int32} {t : Nat} {a : SG × Int32 × Int32} (ht : t < 24) (hn8 : (s 10 0).toNatClampNeg ≤ 8) (h : RoC_c s (inC_c s mask) t a) : RoC_c s (inC_c s mask) (t + 1) (B_row_c_16 t a) := by
  obtain ⟨f, r1, r2, r3, r4, r5, r6⟩ := h
  have hfr := f.tr (fr_B_row_c_16 t a ht)
  generalize hJ : inC_c s mask = J at *
  have j0 : jn J = (s 10 0).toNatClampNeg := by rw [← hJ]; rfl
  have j3 : jra J = s 13 := by rw [← hJ]; rfl
  have j4 : jru J = s 14 := by rw [← hJ]; rfl
  have j5 : jst J = s 10 5 := by rw [← hJ]; rfl
  have j6 : jho J = s 10 6 := by rw [← hJ]; rfl
  have js : ∀ k, jse J k = Int32.ofNat k := fun k => by rw [← hJ]; rfl
  have P := puC_c (s := uset a.1 63 t 0) (J := J) (t := t) (x := trip J t) ht (by rw [j0]; show _ = (a.1 10 0).toNatClampNeg; rw [f 10 0 rfl]) (by rw [j0]; exact hn8) (fun k _ => js k) (by show a.1 13 t = _; rw [f 13 t rfl, j3]) (r5 t ht).1 r3 (fun k hk => (r4 k hk).2.2.1) (fun k hk => (r4 k hk).2.2.2) (fun k hk => (r4 k hk).1) (fun k hk => (r4 k hk).2.1)
  have fp := fr_pullAll_c (uset a.1 63 t 0) t ht
  obtain ⟨p1, p2, p3, p4, p5⟩ := P
  have hB : B_row_c_16 t a = (let w := (bif m_cmp .ne (F_pullAll_c (uset a.1 63 t 0) t 58 8) (-1) then (a.2.1, a.2.2, F_pullAll_c (uset a.1 63 t 0) t) else ((a.2.1 + (F_metresIn_c (F_placeBehind_c (F_pullAll_c (uset a.1 63 t 0) t) t a.2.2).2 t)), (F_placeBehind_c (F_pullAll_c (uset a.1 63 t 0) t) t a.2.2).1, (bif m_cmp .lt (a.2.1 + (F_metresIn_c (F_placeBehind_c (F_pullAll_c (uset a.1 63 t 0) t) t a.2.2).2 t)) ((F_placeBehind_c (F_pullAll_c (uset a.1 63 t 0) t) t a.2.2).2 10 6) then (F_placeBehind_c (F_pullAll_c (uset a.1 63 t 0) t) t a.2.2).2 else (uset (F_placeBehind_c (F_pullAll_c (uset a.1 63 t 0) t) t a.2.2).2 58 8 (Int32.ofNat t)))) : Int32 × Int32 × SG); ((uset (uset w.2.2 59 t w.1) 60 t w.2.1), w.1, w.2.1)) := rfl
  rw [hB] at hfr ⊢
  have q5 : F_pullAll_c (uset a.1 63 t 0) t 63 t = 0 := (fp 63 t rfl).trans (uset_eq _ _ _ _)
  have q5n : ∀ j, j ≠ t → F_pullAll_c (uset a.1 63 t 0) t 63 j = a.1 63 j := fun j hj => (fp 63 j rfl).trans (uset_nj hj)
  have q1 : ∀ j, F_pullAll_c (uset a.1 63 t 0) t 59 j = a.1 59 j := fun j => fp 59 j rfl
  have q2 : ∀ j, F_pullAll_c (uset a.1 63 t 0) t 60 j = a.1 60 j := fun j => fp 60 j rfl
  have q8 : F_pullAll_c (uset a.1 63 t 0) t 58 8 = sth (trip J t) := (fp 58 8 rfl).trans r3
  have q33 : ∀ j, F_pullAll_c (uset a.1 63 t 0) t 91 j = a.1 91 j := fun j => fp 91 j rfl
  have q34 : ∀ j, F_pullAll_c (uset a.1 63 t 0) t 92 j = a.1 92 j := fun j => fp 92 j rfl
  have q35 : ∀ j, F_pullAll_c (uset a.1 63 t 0) t 93 j = a.1 93 j := fun j => fp 93 j rfl
  have q36 : ∀ j, F_pullAll_c (uset a.1 63 t 0) t 94 j = a.1 94 j := fun j => fp 94 j rfl
  have q37 : ∀ j, F_pullAll_c (uset a.1 63 t 0) t 95 j = a.1 95 j := fun j => fp 95 j rfl
  have c3 : F_pullAll_c (uset a.1 63 t 0) t 13 t = jra J t := (fp 13 t rfl).trans (by show a.1 13 t = _; rw [f 13 t rfl, j3])
  have c4 : F_pullAll_c (uset a.1 63 t 0) t 14 t = jru J t := (fp 14 t rfl).trans (by show a.1 14 t = _; rw [f 14 t rfl, j4])
  have c05 : F_pullAll_c (uset a.1 63 t 0) t 10 5 = jst J := (fp 10 5 rfl).trans (by show a.1 10 5 = _; rw [f 10 5 rfl, j5])
  have c06 : F_pullAll_c (uset a.1 63 t 0) t 10 6 = jho J := (fp 10 6 rfl).trans (by show a.1 10 6 = _; rw [f 10 6 rfl, j6])
  have hph := phC_c (z := F_pullAll_c (uset a.1 63 t 0) t) (x := trip J t) c3 p1 p2 c4 ((q36 t).trans (r5 t ht).2.1)
  have hme := meC_c (z := F_pullAll_c (uset a.1 63 t 0) t) (x := trip J t) c3 p1 p2 c05 ((q37 t).trans (r5 t ht).2.2) q5
  rw [r2, hph, hme, r1, q8] at hfr ⊢
  generalize F_pullAll_c (uset a.1 63 t 0) t = z at *
  have hW : ∃ Z : SG, (bif m_cmp .ne (sth (trip J t)) (-1) then (sme (trip J t), spl' (trip J t), z) else ((sme (trip J t) + (bif grd J t (trip J t) then way J t (trip J t) / 2 else way J t (trip J t))), pl' J t (trip J t), (bif m_cmp .lt (sme (trip J t) + (bif grd J t (trip J t) then way J t (trip J t) / 2 else way J t (trip J t))) ((bif grd J t (trip J t) then uset z 63 t 1 else z) 10 6) then (bif grd J t (trip J t) then uset z 63 t 1 else z) else (uset (bif grd J t (trip J t) then uset z 63 t 1 else z) 58 8 (Int32.ofNat t)))) : Int32 × Int32 × SG) = (sme (trip J (t + 1)), spl' (trip J (t + 1)), Z) ∧ Z 58 8 = sth (trip J (t + 1)) ∧ (∀ j, Z 63 j = if j = t then gr' J t (trip J t) else z 63 j) ∧ ∀ b j, b ≠ 63 → b ≠ 58 → Z b j = z b j := by
    have hG : ∀ j, (bif grd J t (trip J t) then uset z 63 t 1 else z) 63 j = if j = t then (bif grd J t (trip J t) then 1 else 0) else z 63 j := fun j => by
      by_cases e : j = t
      · subst e
        rw [if_pos rfl]
        cases grd J j (trip J j)
        · exact q5
        · exact uset_eq _ _ _ _
      · rw [if_neg e]
        cases grd J t (trip J t)
        · rfl
        · exact uset_nj e
    have hG2 : ∀ b j, b ≠ 63 → (bif grd J t (trip J t) then uset z 63 t 1 else z) b j = z b j := fun b j hb => by
      cases grd J t (trip J t)
      · rfl
      · exact uset_na hb
    show ∃ Z : SG, _ = (sme (tst J t (trip J t)), spl' (tst J t (trip J t)), Z) ∧ Z 58 8 = sth (tst J t (trip J t)) ∧ _
    unfold tst gr'
    cases c : m_cmp .ne (sth (trip J t)) (-1) with
    | true =>
      refine ⟨z, rfl, q8, fun j => ?_, fun b j _ _ => rfl⟩
      by_cases e : j = t
      · rw [if_pos e, e]
        exact q5
      · rw [if_neg e]
    | false =>
      have h1 : sth (trip J t) = -1 := Decidable.of_not_not (m_ff m_ne_iff c)
      rw [hG2 10 6 (by decide), c06]
      refine ⟨_, rfl, ?_, fun j => ?_, fun b j hb hc => ?_⟩
      · show (bif m_cmp .lt (me' J t (trip J t)) (jho J) then (bif grd J t (trip J t) then uset z 63 t 1 else z) else (uset (bif grd J t (trip J t) then uset z 63 t 1 else z) 58 8 (Int32.ofNat t))) 58 8 = (bif m_cmp .lt (me' J t (trip J t)) (jho J) then -1 else Int32.ofNat t)
        cases m_cmp .lt (me' J t (trip J t)) (jho J)
        · exact uset_eq _ _ _ _
        · show (bif grd J t (trip J t) then uset z 63 t 1 else z) 58 8 = -1
          rw [hG2 58 8 (by decide), q8, h1]
      · show (bif m_cmp .lt (me' J t (trip J t)) (jho J) then (bif grd J t (trip J t) then uset z 63 t 1 else z) else (uset (bif grd J t (trip J t) then uset z 63 t 1 else z) 58 8 (Int32.ofNat t))) 63 j = _
        refine Eq.trans ?_ (hG j)
        cases m_cmp .lt (me' J t (trip J t)) (jho J)
        · exact uset_na (by decide)
        · rfl
      · show (bif m_cmp .lt (me' J t (trip J t)) (jho J) then (bif grd J t (trip J t) then uset z 63 t 1 else z) else (uset (bif grd J t (trip J t) then uset z 63 t 1 else z) 58 8 (Int32.ofNat t))) b j = _
        rw [← hG2 b j hb]
        cases m_cmp .lt (me' J t (trip J t)) (jho J)
        · exact uset_na hc
        · rfl
  obtain ⟨Z, eZ, z8, z5, zo⟩ := hW
  rw [eZ] at hfr ⊢
  dsimp only at hfr ⊢
  have hb7 : ∀ t2, t2 < 24 → 65 + t2 ≠ 63 ∧ 65 + t2 ≠ 58 ∧ 65 + t2 ≠ 59 ∧ 65 + t2 ≠ 60 := fun t2 _ => by omega
  refine ⟨hfr, rfl, rfl, z8, fun k hk => ?_, fun t2 ht2 => ?_, fun t2 ht2 => ?_⟩
  · show Z 89 k = _ ∧ Z 90 k = _ ∧ Z 91 k = _ ∧ Z 92 k = _
    rw [zo 89 k (by decide) (by decide), zo 90 k (by decide) (by decide), zo 91 k (by decide) (by decide), zo 92 k (by decide) (by decide), q33, q34]
    exact ⟨(p4 k hk).1, (p4 k hk).2.1, (r4 k hk).2.2.1, (r4 k hk).2.2.2⟩
  · show Z 93 t2 = _ ∧ Z 94 t2 = _ ∧ Z 95 t2 = _
    rw [zo 93 t2 (by decide) (by decide), zo 94 t2 (by decide) (by decide), zo 95 t2 (by decide) (by decide), q35, q36, q37]
    exact r5 t2 ht2
  · have ht3 : t2 < 24 := by omega
    obtain ⟨n1, n2, n3, n4⟩ := hb7 t2 ht3
    show uset Z 59 t (sme (trip J (t + 1))) 59 t2 = _ ∧ uset (uset Z 59 t _) 60 t (spl' (trip J (t + 1))) 60 t2 = _ ∧ Z 61 t2 = _ ∧ Z 62 t2 = _ ∧ Z 63 t2 = _ ∧ ∀ k, k < jn J → uset (uset Z 59 t _) 60 t _ (65 + t2) k = _
    rw [zo 61 t2 (by decide) (by decide), zo 62 t2 (by decide) (by decide), z5 t2]
    by_cases q : t2 = t
    · subst q
      rw [uset_eq, uset_eq, if_pos rfl]
      refine ⟨rfl, rfl, p1, p2, rfl, fun k hk => ?_⟩
      rw [uset_na n4, uset_na n3, zo _ k n1 n2]
      exact (p4 k hk).2.2
    · obtain ⟨o1, o2, o3, o4, o5, o6⟩ := r6 t2 (by omega)
      rw [uset_nj q, uset_nj q, uset_na (by decide), zo 59 t2 (by decide) (by decide), zo 60 t2 (by decide) (by decide), q1, q2, (p3 t2 q).1, (p3 t2 q).2, if_neg q, q5n t2 q]
      refine ⟨o1, o2, o3, o4, o5, fun k hk => ?_⟩
      rw [uset_na n4, uset_na n3, zo _ k n1 n2, p5 (65 + t2) k (by omega) (by omega) (by omega)]
      show uset a.1 63 t 0 (65 + t2) k = _
      rw [uset_na n1]
      exact o6 k hk
theorem rowC_c {s : SG} {mask : Int32} (hn8 : (s 10 0).toNatClampNeg ≤ 8) (hev : evC s) : ∃ m p, RoC_c s (inC_c s mask) 24 (F_row_c s mask, m, p) := by
  have fe := fr_takeEvents_b s mask
  have ft := fr_takeRowers_c (F_takeEvents_b s mask)
  have te := teC_b s mask hev
  have tr := trC_c (F_takeEvents_b s mask)
  have e0 : F_takeEvents_b s mask 10 0 = s 10 0 := fe 10 0 rfl
  rw [e0] at tr
  have k0 : RoC_c s (inC_c s mask) 0 (uset (F_takeRowers_c (F_takeEvents_b s mask)) 58 8 (-1), 0, 10) := by
    refine ⟨Fr.uset (by rfl) (Fr.tr (Fr.wk fe (by rfl)) (Fr.wk ft (by rfl))), rfl, rfl, rfl, fun k hk => ?_, fun t ht => ?_, fun t ht => absurd ht (by omega)⟩
    · obtain ⟨t1, t2, t3, t4⟩ := tr k hk
      rw [fe 11 k rfl, fe 12 k rfl] at t1 t2
      show F_takeRowers_c (F_takeEvents_b s mask) 89 k = _ ∧ F_takeRowers_c (F_takeEvents_b s mask) 90 k = _ ∧ F_takeRowers_c (F_takeEvents_b s mask) 91 k = _ ∧ F_takeRowers_c (F_takeEvents_b s mask) 92 k = _
      exact ⟨t3, t4, t1, t2⟩
    · show F_takeRowers_c (F_takeEvents_b s mask) 93 t = _ ∧ F_takeRowers_c (F_takeEvents_b s mask) 94 t = _ ∧ F_takeRowers_c (F_takeEvents_b s mask) 95 t = _
      rw [ft 93 t rfl, ft 94 t rfl, ft 95 t rfl]
      have h := te t ht
      show _ = (befC s mask t).1 ∧ _ = (befC s mask t).2.1 ∧ _ = (befC s mask t).2.2
      rw [← h]
      exact ⟨rfl, rfl, rfl⟩
  have key := itr_ind (f := B_row_c_16) (a := (uset (F_takeRowers_c (F_takeEvents_b s mask)) 58 8 (-1), 0, 10)) (RoC_c s (inC_c s mask)) 24 k0 (fun i a hi h => roS_c hi hn8 h) 24 (Nat.le_refl _)
  exact ⟨_, _, key⟩
