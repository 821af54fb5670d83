/-! the abstract interpreter is sound, instruction by instruction -/
theorem z_nat {j : Int32} (h : 0 ≤ j.toInt) : (j.toNatClampNeg : Int) = j.toInt := by
  show ((j.toInt.toNat : Nat) : Int) = j.toInt
  omega
theorem z_ok {j : Int32} {n : Nat} (h0 : 0 ≤ j.toInt) (h1 : j.toInt < (n : Int)) : m_ok j n = true := by
  have e := z_nat h0
  have g1 : ¬ j < 0 := fun q => by
    have := Int32.lt_iff_toInt_lt.mp q
    have z : (0 : Int32).toInt = 0 := by decide
    omega
  have g2 : j.toNatClampNeg < n := by omega
  simp [m_ok, g1, g2]
section AOP
variable {H : AH} {s : ML} {h h1 : MH} {i k : Nat} {A A1 : AL} {L L1 : ML} {st st1 : List AV} {cst cst1 : List Value} {xs : List Int32} {ops : List Int}
theorem ka_if {c : Jvm.ClassFile.Cond} {t : Nat} (gl : gL s A L) (gs : gS s st cst) (gh : gH H h) : AOK H s h (a_if c t i A st) (o_if c t i L cst h) := by
  unfold a_if
  split
  · rename_i a r
    obtain ⟨v1, vs, rfl, g1, gs1⟩ := gS_c gs
    obtain ⟨x, rfl, _⟩ := id g1
    have g0 : gV s (.inl (0, 0, none)) (.int 0) := gV_c s 0
    unfold o_if
    dsimp only
    cases hc : m_cmp c x 0 with
    | true =>
      obtain ⟨A1, st1, hm, h1, h2⟩ := a_sd_ok (t := t) hc g1 g0 gl gs1
      exact ⟨t, A1, st1, L, vs, h, List.mem_append_left _ hm, rfl, h1, h2, gh, fH.rf H h⟩
    | false =>
      obtain ⟨A1, st1, hm, h1, h2⟩ := a_sd_ok (t := i + 1) (m_cmp_neg hc) g1 g0 gl gs1
      exact ⟨i + 1, A1, st1, L, vs, h, List.mem_append_right _ hm, rfl, h1, h2, gh, fH.rf H h⟩
  · trivial
theorem ka_icmp {c : Jvm.ClassFile.Cond} {t : Nat} (gl : gL s A L) (gs : gS s st cst) (gh : gH H h) : AOK H s h (a_icmp c t i A st) (o_icmp c t i L cst h) := by
  unfold a_icmp
  split
  · rename_i b a r
    obtain ⟨v1, vs1, rfl, g1, gs1⟩ := gS_c gs
    obtain ⟨v2, vs, rfl, g2, gs2⟩ := gS_c gs1
    obtain ⟨y, rfl, _⟩ := id g1
    obtain ⟨x, rfl, _⟩ := id g2
    unfold o_icmp
    dsimp only
    cases hc : m_cmp c x y with
    | true =>
      obtain ⟨A1, st1, hm, h1, h2⟩ := a_sd_ok (t := t) hc g2 g1 gl gs2
      exact ⟨t, A1, st1, L, vs, h, List.mem_append_left _ hm, rfl, h1, h2, gh, fH.rf H h⟩
    | false =>
      obtain ⟨A1, st1, hm, h1, h2⟩ := a_sd_ok (t := i + 1) (m_cmp_neg hc) g2 g1 gl gs2
      exact ⟨i + 1, A1, st1, L, vs, h, List.mem_append_right _ hm, rfl, h1, h2, gh, fH.rf H h⟩
  · trivial
theorem ka_sw {lo hi : Int} (gl : gL s A L) (gs : gS s st cst) (gh : gH H h) : AOK H s h (a_sw (hi - lo + 1).toNat ops A st) (o_sw lo hi ops L cst h) := by
  unfold a_sw
  split
  · rename_i a r
    obtain ⟨v1, vs, rfl, g1, gs1⟩ := gS_c gs
    obtain ⟨x, rfl, _⟩ := id g1
    unfold o_sw
    dsimp only
    split
    · exact ⟨m_n ops 0, A, r, L, vs, h, List.mem_map.mpr ⟨0, List.mem_range.mpr (by omega), rfl⟩, rfl, gl, gs1, gh, fH.rf H h⟩
    · rename_i hc
      have : ¬ x.toInt < lo := fun q => hc (Or.inl q)
      have : ¬ hi < x.toInt := fun q => hc (Or.inr q)
      exact ⟨m_n ops ((x.toInt - lo).toNat + 1), A, r, L, vs, h, List.mem_map.mpr ⟨(x.toInt - lo).toNat + 1, List.mem_range.mpr (by omega), rfl⟩, rfl, gl, gs1, gh, fH.rf H h⟩
  · trivial
theorem ka_ald {fl : Bool} {t : Nat} (gl : gL s A L) (gs : gS s st cst) (gh : gH H h) : AOK H s h (a_ald H t i A st) (o_ald fl xs t i L cst h) := by
  unfold a_ald
  split
  · rename_i jl ju q rs r
    obtain ⟨v1, vs1, rfl, g1, gs1⟩ := gS_c gs
    obtain ⟨v2, vs, rfl, g2, gs2⟩ := gS_c gs1
    obtain ⟨j, rfl, j1, j2, -⟩ := g1
    obtain ⟨a, rfl, ha⟩ := g2
    cases hall : rs.all (a_ix H t jl ju) with
    | false => trivial
    | true =>
      have hi := List.all_eq_true.mp hall a ha
      unfold a_ix at hi
      split at hi
      · rename_i u n lo hi2 fz hc
        obtain ⟨e1, hi⟩ := b_and hi
        obtain ⟨e2, e3⟩ := b_and hi
        have e1 : u = t := by simpa using e1
        have e2 := of_decide_eq_true e2
        have e3 := of_decide_eq_true e3
        subst e1
        obtain ⟨x, hx, l, rfl, hl, hb⟩ := gh.2 a _ hc
        subst hl
        have hok := z_ok (j := j) (n := l.length) (by omega) (by omega)
        have hlt := m_ok_lt hok
        have hmem : l.getD j.toNatClampNeg 0 ∈ l := by
          rw [List.getD_eq_getElem?_getD, List.getElem?_eq_getElem hlt]
          exact List.getElem_mem hlt
        have hb2 := hb _ hmem
        have hL := hullL_le (f := a_lo H) ha
        have hU := hullH_le (f := a_hi H) ha
        have eL : a_lo H a = lo := by unfold a_lo; rw [hc]
        have eU : a_hi H a = hi2 := by unfold a_hi; rw [hc]
        unfold o_ald
        dsimp only
        rw [hx]
        dsimp only
        rw [hok, beq_self_eq_true]
        refine ok_nx gl ⟨⟨_, rfl, ?_, ?_, fun k d hr => by cases hr⟩, gs2⟩ gh (fH.rf H h)
        · rw [eL] at hL; exact Int.le_trans hL hb2.1
        · rw [eU] at hU; exact Int.le_trans hb2.2 hU
      · cases hi
  · trivial
theorem ka_ast {t : Nat} (gl : gL s A L) (gs : gS s st cst) (gh : gH H h) : AOK H s h (a_ast H t i A st) (o_ast t i L cst h) := by
  unfold a_ast
  split
  · rename_i vl vu q1 jl ju q2 rs r
    obtain ⟨v1, vs1, rfl, g1, gs1⟩ := gS_c gs
    obtain ⟨v2, vs2, rfl, g2, gs2⟩ := gS_c gs1
    obtain ⟨v3, vs, rfl, g3, gs3⟩ := gS_c gs2
    obtain ⟨x, rfl, x1, x2, -⟩ := g1
    obtain ⟨j, rfl, j1, j2, -⟩ := g2
    obtain ⟨a, rfl, ha⟩ := g3
    cases hall : rs.all (a_wr H t jl ju vl vu) with
    | false => trivial
    | true =>
      have hi := List.all_eq_true.mp hall a ha
      unfold a_wr at hi
      split at hi
      · rename_i u n lo hi2 fz hc
        obtain ⟨e1, hi⟩ := b_and hi
        obtain ⟨e2, hi⟩ := b_and hi
        obtain ⟨e3, hi⟩ := b_and hi
        obtain ⟨e4, hi⟩ := b_and hi
        obtain ⟨e5, hi⟩ := b_and hi
        obtain ⟨e6, e7⟩ := b_and hi
        have e1 : u = t := by simpa using e1
        have e2 := of_decide_eq_true e2
        have e3 := of_decide_eq_true e3
        have e4 := of_decide_eq_true e4
        have e5 := of_decide_eq_true e5
        have e6 : fz = false := by simpa using e6
        subst e1
        subst e6
        obtain ⟨y, hy, l, rfl, hl, hb⟩ := gh.2 a _ hc
        subst hl
        have hok := z_ok (j := j) (n := l.length) (by omega) (by omega)
        have hfit : m_fit u (.int x) = true := by
          simp only [m_fit]
          simp only [Bool.or_eq_true, Bool.and_eq_true, beq_iff_eq, decide_eq_true_eq] at e7 ⊢
          rcases e7 with e4 | ⟨e4, e5, e6⟩
          · exact Or.inl e4
          · refine Or.inr ⟨e4, ?_⟩
            have : x.toInt = 0 ∨ x.toInt = 1 := by omega
            rcases this with z | z
            · exact Or.inl (Int32.toInt_inj.mp z)
            · exact Or.inr (Int32.toInt_inj.mp z)
        have key := gh.set (y := .inl (u, .inl (l.set j.toNatClampNeg x))) hc hy ⟨_, rfl, by simp, fun z hz => by
          rcases List.mem_or_eq_of_mem_set hz with hz | rfl
          · exact hb z hz
          · omega⟩ (fun q => by cases q)
        unfold o_ast
        dsimp only
        rw [hy]
        dsimp only
        rw [hok, hfit, beq_self_eq_true]
        exact ok_nx gl gs3 key.1 key.2
      · cases hi
  · trivial
theorem ka_aald (gl : gL s A L) (gs : gS s st cst) (gh : gH H h) : AOK H s h (a_aald H i A st) (o_aald i L cst h) := by
  unfold a_aald
  split
  · rename_i jl ju q rs r
    obtain ⟨v1, vs1, rfl, g1, gs1⟩ := gS_c gs
    obtain ⟨v2, vs, rfl, g2, gs2⟩ := gS_c gs1
    obtain ⟨j, rfl, j1, j2, -⟩ := g1
    obtain ⟨a, rfl, ha⟩ := g2
    cases hall : rs.all (a_iq H jl ju) with
    | false => trivial
    | true =>
      have hi := List.all_eq_true.mp hall a ha
      unfold a_iq at hi
      split at hi
      · rename_i u qs hc
        obtain ⟨e1, hi⟩ := b_and hi
        obtain ⟨e2, e3⟩ := b_and hi
        have e2 := of_decide_eq_true e2
        have e3 := of_decide_eq_true e3
        obtain ⟨y, hy, hg⟩ := gh.2 a _ hc
        have hu : u = 2 ∨ u = 3 ∨ u = 4 := by simpa using e1
        rcases hg with hg | rfl
        · omega
        · have hl : (qs.map some).length = qs.length := by simp
          have hok := z_ok (j := j) (n := (qs.map some).length) (by omega) (by rw [hl]; omega)
          have hlt := m_ok_lt hok
          rw [hl] at hlt
          have en := z_nat (j := j) (by omega)
          have hget : (qs.map some).getD j.toNatClampNeg none = some qs[j.toNatClampNeg] := by
            rw [List.getD_eq_getElem?_getD, List.getElem?_map, List.getElem?_eq_getElem hlt]
            rfl
          unfold o_aald
          dsimp only
          rw [hy]
          dsimp only
          rw [hok, e1]
          refine ok_nx gl ⟨?_, gs2⟩ gh (fH.rf H h)
          rw [hget]
          refine ⟨qs[j.toNatClampNeg], rfl, List.mem_flatMap.mpr ⟨a, ha, ?_⟩⟩
          unfold a_qs
          rw [hc]
          dsimp only
          refine List.mem_of_getElem? (i := j.toNatClampNeg - jl.toNat) ?_
          rw [List.getElem?_take, if_pos (by omega), List.getElem?_drop, show jl.toNat + (j.toNatClampNeg - jl.toNat) = j.toNatClampNeg by omega]
          exact List.getElem?_eq_getElem hlt
      · cases hi
  · trivial
theorem ka_len {fl : Bool} (gl : gL s A L) (gs : gS s st cst) (gh : gH H h) : AOK H s h (a_len H i A st) (o_len fl xs i L cst h) := by
  unfold a_len
  split
  · rename_i q qs r
    obtain ⟨v1, vs, rfl, g1, gs1⟩ := gS_c gs
    obtain ⟨a, rfl, ha⟩ := g1
    split
    · rename_i t n lo hi fz hc0
      cases hall : (q :: qs).all (a_ln H n) with
      | false => trivial
      | true =>
        have hi9 := List.all_eq_true.mp hall a ha
        unfold a_ln at hi9
        split at hi9
        · rename_i u m lo2 hi2 fz2 hc
          obtain ⟨e1, e2⟩ := b_and hi9
          have e1 : u = 0 := by simpa using e1
          have e2 : m = n := by simpa using e2
          subst e1
          subst e2
          obtain ⟨x, hx, l, rfl, hl, hb⟩ := gh.2 a _ hc
          unfold o_len
          dsimp only
          rw [hx]
          show AOK H s h (a_nx i A (aC (Int32.ofNat m) :: r)) (o_nx i L (Value.int (Int32.ofNat l.length) :: vs) h)
          rw [hl]
          exact ok_nx gl ⟨gV_c s _, gs1⟩ gh (fH.rf H h)
        · cases hi9
    · trivial
  · trivial
theorem fd_sp {ci k r : Nat} {f : AF} (gh : gH H h) (hf : a_fd H ci k r = some f) : ∃ (fs : List AF) (vs : List Value) (v : Value), H[r]? = some (.inr (.inr (ci, fs))) ∧ fs[k]? = some f ∧ h[r]? = some (.inr (ci, vs)) ∧ vs.length = fs.length ∧ vs[k]? = some v ∧ gF f v ∧ ∀ (k : Nat) (f : AF), fs[k]? = some f → ∃ v, vs[k]? = some v ∧ gF f v := by
  unfold a_fd at hf
  split at hf
  · rename_i c fs hc
    split at hf
    · rename_i e
      subst e
      obtain ⟨x, hx, vs, rfl, hl, hb⟩ := gh.2 r _ hc
      obtain ⟨v, hv, gv⟩ := hb k f hf
      exact ⟨fs, vs, v, hc, hf, hx, hl, hv, gv, hb⟩
    · cases hf
  · cases hf
theorem ka_get {ci k : Nat} (gl : gL s A L) (gs : gS s st cst) (gh : gH H h) : AOK H s h (a_get H ci k i A st) (o_get ci k i L cst h) := by
  unfold a_get
  split
  · rename_i rs r
    obtain ⟨v1, vs, rfl, g1, gs1⟩ := gS_c gs
    obtain ⟨a, rfl, ha⟩ := g1
    cases hall : rs.all (a_isi H ci k) with
    | true =>
      have hi := List.all_eq_true.mp hall a ha
      unfold a_isi at hi
      split at hi
      · rename_i q hfd
        obtain ⟨lo, hi2, fz⟩ := q
        obtain ⟨fs, ws, v, -, -, hx, -, hv, ⟨x, rfl, x1, x2⟩, -⟩ := fd_sp gh hfd
        have hL := hullL_le (f := a_fl H ci k) ha
        have hU := hullH_le (f := a_fh H ci k) ha
        have eL : a_fl H ci k a = lo := by unfold a_fl; rw [hfd]
        have eU : a_fh H ci k a = hi2 := by unfold a_fh; rw [hfd]
        unfold o_get
        dsimp only
        rw [hx]
        dsimp only
        rw [beq_self_eq_true, hv]
        refine ok_nx gl ⟨⟨x, rfl, by omega, by omega, fun k d hr => by cases hr⟩, gs1⟩ gh (fH.rf H h)
      · cases hi
    | false =>
      dsimp only [cond_false]
      cases hall2 : rs.all (a_isr H ci k) with
      | false => trivial
      | true =>
        have hi := List.all_eq_true.mp hall2 a ha
        unfold a_isr at hi
        split at hi
        · rename_i q hfd
          obtain ⟨fs, ws, v, -, -, hx, -, hv, gv, -⟩ := fd_sp gh hfd
          have gv : v = .ref q := gv
          subst gv
          unfold o_get
          dsimp only
          rw [hx]
          dsimp only
          rw [beq_self_eq_true, hv]
          refine ok_nx gl ⟨⟨q, rfl, List.mem_flatMap.mpr ⟨a, ha, ?_⟩⟩, gs1⟩ gh (fH.rf H h)
          unfold a_fr
          rw [hfd]
          exact List.mem_singleton.mpr rfl
        · cases hi
  · trivial
theorem ka_put {ci k tc : Nat} (gl : gL s A L) (gs : gS s st cst) (gh : gH H h) : AOK H s h (a_put H ci k tc i A st) (o_put ci k tc i L cst h) := by
  unfold a_put
  split
  · rename_i vl vu q rs r
    obtain ⟨v1, vs1, rfl, g1, gs1⟩ := gS_c gs
    obtain ⟨v2, vs, rfl, g2, gs2⟩ := gS_c gs1
    obtain ⟨x, rfl, x1, x2, -⟩ := g1
    obtain ⟨a, rfl, ha⟩ := g2
    cases hall : rs.all (a_pf H ci k tc vl vu) with
    | false => trivial
    | true =>
      have hi := List.all_eq_true.mp hall a ha
      unfold a_pf at hi
      split at hi
      · rename_i lo hi2 fz hfd
        obtain ⟨e1, hi⟩ := b_and hi
        obtain ⟨e2, hi⟩ := b_and hi
        obtain ⟨e3, e4⟩ := b_and hi
        have e1 : fz = false := by simpa using e1
        have e2 := of_decide_eq_true e2
        have e3 := of_decide_eq_true e3
        subst e1
        obtain ⟨fs, ws, v, hc, hf, hx, hl, hv, gv, hb⟩ := fd_sp gh hfd
        have hk : k < ws.length := (List.getElem?_eq_some_iff.mp hv).1
        have hfit : m_fit tc (.int x) = true := by
          simp only [m_fit]
          simp only [Bool.or_eq_true, Bool.and_eq_true, beq_iff_eq, decide_eq_true_eq] at e4 ⊢
          rcases e4 with e4 | ⟨e4, e5, e6⟩
          · exact Or.inl e4
          · refine Or.inr ⟨e4, ?_⟩
            have : x.toInt = 0 ∨ x.toInt = 1 := by omega
            rcases this with z | z
            · exact Or.inl (Int32.toInt_inj.mp z)
            · exact Or.inr (Int32.toInt_inj.mp z)
        have key := gh.set (y := .inr (ci, ws.set k (.int x))) hc hx ⟨_, rfl, by simp [hl], fun j f hj => by
          by_cases e : k = j
          · subst e
            rw [hf] at hj
            cases hj
            exact ⟨.int x, List.getElem?_set_self hk, x, rfl, by omega, by omega⟩
          · rw [List.getElem?_set_ne e]
            exact hb j f hj⟩ (fun ci2 vs2 e => by
              cases e
              refine ⟨_, rfl, fun j f hj hn => ?_⟩
              by_cases e : k = j
              · subst e
                rw [hf] at hj
                cases hj
                exact absurd rfl (hn _ _)
              · exact List.getElem?_set_ne e)
        unfold o_put
        dsimp only
        rw [hx]
        dsimp only
        rw [beq_self_eq_true, hfit, decide_eq_true hk]
        exact ok_nx gl gs2 key.1 key.2
      · cases hi
  · trivial
theorem z_small {r : List AV} {vs : List Value} (g : gS s r vs) (h : a_small r = true) : m_small vs = true := by
  unfold a_small at h
  unfold m_small
  rw [gS_small g]
  exact h
theorem z_max (x y : Int32) : (if x < y then y else x).toInt = max x.toInt y.toInt := by
  split
  · rename_i q
    have := Int32.lt_iff_toInt_lt.mp q
    omega
  · rename_i q
    have := Int32.le_iff_toInt_le.mp (Int32.not_lt.mp q)
    omega
theorem z_min (x y : Int32) : (if y < x then y else x).toInt = min x.toInt y.toInt := by
  split
  · rename_i q
    have := Int32.lt_iff_toInt_lt.mp q
    omega
  · rename_i q
    have := Int32.le_iff_toInt_le.mp (Int32.not_lt.mp q)
    omega
theorem ka_mm {mn : Bool} {f : Int32 → Int32 → Int32} (hf : ∀ x y : Int32, (f x y).toInt = bif mn then min x.toInt y.toInt else max x.toInt y.toInt) (gl : gL s A L) (gs : gS s st cst) (gh : gH H h) : AOK H s h (a_mm mn i A st) (o_mm f i L cst h) := by
  unfold a_mm
  split
  · rename_i b a r
    obtain ⟨b1, b2, bq⟩ := b
    obtain ⟨a1, a2, aq⟩ := a
    obtain ⟨v1, vs1, rfl, g1, gs1⟩ := gS_c gs
    obtain ⟨v2, vs, rfl, g2, gs2⟩ := gS_c gs1
    obtain ⟨y, rfl, y1, y2, _⟩ := id g1
    obtain ⟨x, rfl, x1, x2, _⟩ := id g2
    cases hs : a_small r with
    | false => trivial
    | true =>
      unfold o_mm
      dsimp only
      rw [z_small gs2 hs]
      refine ok_nx gl ⟨?_, gs2⟩ gh (fH.rf H h)
      have h1 := hf x y
      cases mn with
      | true => exact ⟨_, rfl, by rw [h1]; show min a1 b1 ≤ min x.toInt y.toInt; omega, by rw [h1]; show min x.toInt y.toInt ≤ min a2 b2; omega, fun k d hr => by cases hr⟩
      | false => exact ⟨_, rfl, by rw [h1]; show max a1 b1 ≤ max x.toInt y.toInt; omega, by rw [h1]; show max x.toInt y.toInt ≤ max a2 b2; omega, fun k d hr => by cases hr⟩
  · trivial
theorem ka_ma (gl : gL s A L) (gs : gS s st cst) (gh : gH H h) : AOK H s h (a_ma i A st) (o_ma i L cst h) := by
  unfold a_ma
  split
  · rename_i a r
    obtain ⟨v1, vs, rfl, g1, gs1⟩ := gS_c gs
    obtain ⟨y, rfl, _⟩ := id g1
    cases hs : a_small r with
    | false => trivial
    | true =>
      unfold o_ma
      dsimp only
      rw [z_small gs1 hs]
      exact ok_nx gl ⟨gV_top s _, gs1⟩ gh (fH.rf H h)
  · trivial
theorem ka_cpy (gl : gL s A L) (gs : gS s st cst) (gh : gH H h) : AOK H s h (a_cpy H i A st) (o_cpy i L cst h) := by
  unfold a_cpy
  split
  · rename_i nl nu q1 dl du q2 rs sl su q3 a0 r
    obtain ⟨v1, vs1, rfl, g1, gs1⟩ := gS_c gs
    obtain ⟨v2, vs2, rfl, g2, gs2⟩ := gS_c gs1
    obtain ⟨v3, vs3, rfl, g3, gs3⟩ := gS_c gs2
    obtain ⟨v4, vs4, rfl, g4, gs4⟩ := gS_c gs3
    obtain ⟨v5, vs, rfl, g5, gs5⟩ := gS_c gs4
    obtain ⟨n, rfl, n1, n2, -⟩ := g1
    obtain ⟨dp, rfl, d1, d2, -⟩ := g2
    obtain ⟨b1, rfl, hb1⟩ := g3
    obtain ⟨sp, rfl, s1, s2, -⟩ := g4
    obtain ⟨b0, rfl, hb0⟩ := g5
    have hb0 := List.mem_singleton.mp hb0
    subst hb0
    cases hall : ((decide (nl = nu) && (decide (dl = du) && decide (sl = su))) && (rs.all (fun a1 => a_cp H nl dl sl a1 b0) && a_small r)) with
    | false => trivial
    | true =>
      obtain ⟨c1, c2⟩ := b_and hall
      obtain ⟨c1, c3⟩ := b_and c1
      obtain ⟨c3, c4⟩ := b_and c3
      obtain ⟨c2, c5⟩ := b_and c2
      have c1 := of_decide_eq_true c1
      have c3 := of_decide_eq_true c3
      have c4 := of_decide_eq_true c4
      have c2 := List.all_eq_true.mp c2 b1 hb1
      unfold a_cp at c2
      split at c2
      · rename_i n0 lo0 hi0 fz0 m1 lo1 hi1 fz hc0 hc1
        obtain ⟨k1, k2⟩ := b_and c2
        obtain ⟨k1, k3⟩ := b_and k1
        obtain ⟨k3, k4⟩ := b_and k3
        obtain ⟨k5, k2⟩ := b_and k2
        obtain ⟨k6, k2⟩ := b_and k2
        obtain ⟨k7, k2⟩ := b_and k2
        obtain ⟨k8, k9⟩ := b_and k2
        have k1 := of_decide_eq_true k1
        have k3 := of_decide_eq_true k3
        have k4 := of_decide_eq_true k4
        have k5 := of_decide_eq_true k5
        have k6 := of_decide_eq_true k6
        have k7 := of_decide_eq_true k7
        have k8 := of_decide_eq_true k8
        have k9 : fz = false := by simpa using k9
        subst k9
        obtain ⟨x0, hx0, l0, rfl, hl0, hr0⟩ := gh.2 b0 _ hc0
        obtain ⟨x1, hx1, l1, rfl, hl1, hr1⟩ := gh.2 b1 _ hc1
        have zn := z_nat (j := n) (by omega)
        have zd := z_nat (j := dp) (by omega)
        have zs := z_nat (j := sp) (by omega)
        have z0 : (0 : Int32).toInt = 0 := by decide
        have p1 : ¬ sp < 0 := fun q => by have := Int32.lt_iff_toInt_lt.mp q; omega
        have p2 : ¬ dp < 0 := fun q => by have := Int32.lt_iff_toInt_lt.mp q; omega
        have p3 : ¬ n < 0 := fun q => by have := Int32.lt_iff_toInt_lt.mp q; omega
        have p4 : sp.toNatClampNeg + n.toNatClampNeg ≤ l0.length := by omega
        have p5 : dp.toNatClampNeg + n.toNatClampNeg ≤ l1.length := by omega
        have key := gh.set (y := .inl (0, .inl (m_cpy l0 l1 sp.toNatClampNeg dp.toNatClampNeg n.toNatClampNeg))) hc1 hx1 ⟨_, rfl, by simp [m_cpy]; omega, fun z hz => by
          unfold m_cpy at hz
          rcases List.mem_append.mp hz with hz | hz
          · exact hr1 z (List.mem_of_mem_take hz)
          · rcases List.mem_append.mp hz with hz | hz
            · have := hr0 z (List.mem_of_mem_drop (List.mem_of_mem_take hz))
              omega
            · exact hr1 z (List.mem_of_mem_drop hz)⟩ (fun q => by cases q)
        unfold o_cpy
        dsimp only
        rw [hx0, hx1]
        show AOK H s h (a_nx i A r) (bif (!(decide (sp < 0)) && (!(decide (dp < 0)) && !(decide (n < 0)))) && (decide (sp.toNatClampNeg + n.toNatClampNeg ≤ l0.length) && (decide (dp.toNatClampNeg + n.toNatClampNeg ≤ l1.length) && m_small vs)) then o_nx i L vs (h.set b1 (.inl (0, .inl (m_cpy l0 l1 sp.toNatClampNeg dp.toNatClampNeg n.toNatClampNeg)))) else none)
        rw [decide_eq_false p1, decide_eq_false p2, decide_eq_false p3, decide_eq_true p4, decide_eq_true p5, z_small gs5 c5]
        exact ok_nx gl gs5 key.1 key.2
      · cases c2
  · trivial
theorem ka_cv {y n ci : Nat} (gs : gS s st cst) (gh : gH H h) : AOK H s h (a_cv H y n ci st) (o_cv y n ci cst h) := by
  unfold a_cv
  split
  · rename_i rs as hst
    have g1 := gS_rev (gS_take (n + 1) gs).1
    have g2 := (gS_take (n + 1) gs).2
    rw [hst] at g1
    obtain ⟨v, vs, hv, gv, gas⟩ := gS_c g1
    obtain ⟨a, rfl, ha⟩ := id gv
    cases hall : (rs.all (a_ob H ci) && (decide (as.length = n) && a_small (st.drop (n + 1)))) with
    | false => trivial
    | true =>
      obtain ⟨c1, c2⟩ := b_and hall
      obtain ⟨c2, c3⟩ := b_and c2
      have c2 := of_decide_eq_true c2
      have hi := List.all_eq_true.mp c1 a ha
      unfold a_ob at hi
      split at hi
      · rename_i c fs hc
        have e : c = ci := by simpa using hi
        subst e
        obtain ⟨x, hx, ws, rfl, hl, hb⟩ := gh.2 a _ hc
        unfold o_cv
        rw [hv]
        dsimp only
        rw [hx]
        dsimp only
        rw [beq_self_eq_true, decide_eq_true ((gS_len gas).symm.trans c2), z_small g2 c3]
        exact ⟨_, _, rfl, ⟨gv, gas⟩, g2⟩
      · cases hi
  · trivial
theorem ka_cs {y n : Nat} (gs : gS s st cst) : AOK H s h (a_cs y n st) (o_cs y n cst) := by
  unfold a_cs
  cases hall : (decide ((st.take n).length = n) && a_small (st.drop n)) with
  | false => trivial
  | true =>
    obtain ⟨c2, c3⟩ := b_and hall
    have c2 := of_decide_eq_true c2
    have g1 := (gS_take n gs).1
    have g2 := (gS_take n gs).2
    unfold o_cs
    rw [decide_eq_true ((gS_len g1).symm.trans c2), z_small g2 c3]
    exact ⟨_, _, rfl, gS_rev g1, g2⟩
theorem ka_ret {z : Nat} (gs : gS s st cst) : AOK H s h (a_ret z st) (o_ret z cst) := by
  unfold a_ret
  split
  · rename_i a
    obtain ⟨lo, hi, q⟩ := a
    obtain ⟨v1, vs1, rfl, g1, gs1⟩ := gS_c gs
    have e := gS_n gs1
    subst e
    obtain ⟨x, rfl, x1, x2, _⟩ := id g1
    dsimp only
    cases hall : (z == 0 || (z == 1 && (decide (0 ≤ lo) && decide (hi ≤ 1)))) with
    | false => trivial
    | true =>
      have hfit : m_fit z (.int x) = true := by
        simp only [m_fit]
        simp only [Bool.or_eq_true, Bool.and_eq_true, beq_iff_eq, decide_eq_true_eq] at hall ⊢
        rcases hall with e4 | ⟨e4, e5, e6⟩
        · exact Or.inl e4
        · refine Or.inr ⟨e4, ?_⟩
          have : x.toInt = 0 ∨ x.toInt = 1 := by omega
          rcases this with z | z
          · exact Or.inl (Int32.toInt_inj.mp z)
          · exact Or.inr (Int32.toInt_inj.mp z)
      unfold o_ret
      dsimp only
      rw [hfit]
      exact ⟨_, rfl, g1⟩
  · trivial
theorem ka_lret (gs : gS s st cst) : AOK H s h (a_lret st) (o_lret cst) := by
  unfold a_lret
  split
  · obtain ⟨v1, vs1, rfl, g1, gs1⟩ := gS_c gs
    have e := gS_n gs1
    subst e
    obtain ⟨x, rfl, _⟩ := id g1
    exact ⟨_, rfl, g1⟩
  · trivial
theorem ka_aret (gs : gS s st cst) : AOK H s h (a_aret st) (o_aret cst) := by
  unfold a_aret
  split
  · obtain ⟨v1, vs1, rfl, g1, gs1⟩ := gS_c gs
    have e := gS_n gs1
    subst e
    obtain ⟨x, rfl, _⟩ := id g1
    exact ⟨_, rfl, g1⟩
  · trivial
theorem ka_vret (gs : gS s st cst) : AOK H s h (a_vret st) (o_vret cst) := by
  unfold a_vret
  split
  · have e := gS_n gs
    subst e
    exact ⟨_, rfl, trivial⟩
  · trivial
theorem ok_rem : okII f_rem (fun x y => x - x / y * y) := by
  intro s ⟨lo1, hi1, r1⟩ ⟨lo2, hi2, r2⟩ x y ⟨x', e1, a1, a2, a3⟩ ⟨y', e2, b1, b2, b3⟩
  cases e1
  cases e2
  unfold f_rem
  dsimp only
  split
  · rename_i hc
    obtain ⟨c1, c2⟩ := hc
    have z0 : (0 : Int32).toInt = 0 := by decide
    have hx : ¬ x < 0 := fun q => by have := Int32.lt_iff_toInt_lt.mp q; omega
    have hy : ¬ y < 0 := fun q => by have := Int32.lt_iff_toInt_lt.mp q; omega
    obtain ⟨p, hp, rfl⟩ := nI_of hx
    obtain ⟨q, hq, rfl⟩ := nI_of hy
    rw [nI_toInt hq] at b1 b2
    have hq0 : 0 < q := by omega
    rw [pk_rem hp hq0 hq]
    have hm := Nat.mod_lt p hq0
    refine ⟨_, rfl, ?_, ?_, fun k d hr => by cases hr⟩
    · rw [nI_toInt (by omega)]; omega
    · rw [nI_toInt (by omega)]; omega
  · exact gV_top s _
theorem ok_div : okII f_div (fun x y => x / y) := by
  intro s ⟨lo1, hi1, r1⟩ ⟨lo2, hi2, r2⟩ x y ⟨x', e1, a1, a2, a3⟩ ⟨y', e2, b1, b2, b3⟩
  cases e1
  cases e2
  unfold f_div
  dsimp only
  split
  · rename_i hc
    obtain ⟨c1, c2, c3⟩ := hc
    have z0 : (0 : Int32).toInt = 0 := by decide
    have hx : ¬ x < 0 := fun q => by have := Int32.lt_iff_toInt_lt.mp q; omega
    have hy : ¬ y < 0 := fun q => by have := Int32.lt_iff_toInt_lt.mp q; omega
    obtain ⟨p, hp, rfl⟩ := nI_of hx
    obtain ⟨q, hq, rfl⟩ := nI_of hy
    rw [nI_toInt hq] at b1 b2
    rw [nI_toInt hp] at a1 a2
    have hq0 : 0 < q := by omega
    have eq : lo2 = (q : Int) := by omega
    rw [pk_div hp hq0 hq]
    have hm := Nat.div_le_self p q
    refine ⟨_, rfl, ?_, ?_, fun k d hr => by cases hr⟩
    · rw [nI_toInt (by omega)]; exact Int.natCast_nonneg _
    · rw [nI_toInt (by omega), eq, Int.natCast_ediv]
      exact Int.ediv_le_ediv (by omega) a2
  · exact gV_top s _
theorem a_ok (ins : Instr) (gl : gL s A L) (gs : gS s st cst) (gh : gH H h) : AOK H s h (aexec H ins ops i A st) (mexec false xs ins ops i L cst h) := by
  cases ins
  case iconst n => exact ok_nx gl ⟨gV_c s _, gs⟩ gh (fH.rf H h)
  case bipush n => exact ok_nx gl ⟨gV_c s _, gs⟩ gh (fH.rf H h)
  case sipush n => exact ok_nx gl ⟨gV_c s _, gs⟩ gh (fH.rf H h)
  case ldc n => exact ok_nx gl ⟨gV_c s _, gs⟩ gh (fH.rf H h)
  case ldc_w n => exact ok_nx gl ⟨gV_c s _, gs⟩ gh (fH.rf H h)
  case ldc2_w n => exact ok_nx gl ⟨gV_lk s _, gs⟩ gh (fH.rf H h)
  case lconst n => exact ok_nx gl ⟨gV_lk s _, gs⟩ gh (fH.rf H h)
  case iload k => exact ka_il gl gs gh
  case iload_n k => exact ka_il gl gs gh
  case lload k => exact ka_jl gl gs gh
  case lload_n k => exact ka_jl gl gs gh
  case aload k => exact ka_al gl gs gh
  case aload_n k => exact ka_al gl gs gh
  case istore k => exact ka_is gl gs gh
  case istore_n k => exact ka_is gl gs gh
  case lstore k => exact ka_js gl gs gh
  case lstore_n k => exact ka_js gl gs gh
  case astore k => exact ka_as gl gs gh
  case astore_n k => exact ka_as gl gs gh
  case iinc k n => exact ka_inc gl gs gh
  case dup => exact ka_dup gl gs gh
  case dup2 => exact ka_dup2 gl gs gh
  case iadd => exact ka_ii ok_add gl gs gh
  case isub => exact ka_ii ok_sub gl gs gh
  case imul => exact ka_ii ok_mul gl gs gh
  case iand => exact ka_ii (ok_top _) gl gs gh
  case ior => exact ka_ii (ok_top _) gl gs gh
  case ixor => exact ka_ii (ok_top _) gl gs gh
  case ishl => exact ka_ii ok_shl gl gs gh
  case ishr => exact ka_ii (ok_top _) gl gs gh
  case iushr => exact ka_ii (ok_top _) gl gs gh
  case idiv => exact ka_id ok_div gl gs gh
  case irem => exact ka_id ok_rem gl gs gh
  case ineg => exact ka_i1 (fun x => gV_top s _) gl gs gh
  case ladd => exact ka_jj gl gs gh
  case lsub => exact ka_jj gl gs gh
  case lmul => exact ka_jj gl gs gh
  case ldiv => exact ka_jd gl gs gh
  case lrem => exact ka_jd gl gs gh
  case lshl => exact ka_lshl gl gs gh
  case lcmp => exact ka_lcmp gl gs gh
  case i2l => exact ka_i1 (fun x => gV_l s _) gl gs gh
  case i2b => exact ka_i1 (fun x => gV_top s _) gl gs gh
  case i2s => exact ka_i1 (fun x => gV_top s _) gl gs gh
  case ifCond c off => exact ka_if gl gs gh
  case if_icmp c off => exact ka_icmp gl gs gh
  case goto off => exact ⟨_, A, st, L, cst, h, List.mem_singleton.mpr rfl, rfl, gl, gs, gh, fH.rf H h⟩
  case tableswitch d lo hi offs => exact ka_sw gl gs gh
  case iaload => exact ka_ald gl gs gh
  case baload => exact ka_ald gl gs gh
  case iastore => exact ka_ast gl gs gh
  case bastore => exact ka_ast gl gs gh
  case aaload => exact ka_aald gl gs gh
  case arraylength => exact ka_len gl gs gh
  case getfield k => exact ka_get gl gs gh
  case putfield k => exact ka_put gl gs gh
  case invokevirtual k => exact ka_cv gs gh
  case invokestatic k =>
    simp only [aexec, mexec]
    generalize m_n ops 0 = z
    match z with
    | 0 => exact ka_cs gs
    | 1 => exact ka_cs gs
    | 2 => exact ka_cpy gl gs gh
    | 3 => exact ka_mm (mn := false) z_max gl gs gh
    | 4 => exact ka_mm (mn := true) z_min gl gs gh
    | 5 => exact ka_ma gl gs gh
    | n + 6 => exact ka_cs gs
  case ireturn => exact ka_ret gs
  case lreturn => exact ka_lret gs
  case areturn => exact ka_aret gs
  case return_ => exact ka_vret gs
  all_goals trivial
end AOP
