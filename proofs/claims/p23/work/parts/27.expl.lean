/-! from loop heads to loop heads: contracts out of a test that computes -/
/-- a method's number, what it is called with, what may come back (with what is then known of its int arguments) -/
abbrev CT : Type := Nat × List AV × List (Option AV × List (Nat × Int × Int))
/-- a loop's head: its row, what holds there, a weight, and counters (local, factor, bound) -/
abbrev HD : Type := Nat × AL × Nat × List (Nat × Nat × Int)
def aLe (a p : AV) : Bool := match a, p with
  | .inl (l, u, _), .inl (pl, pu, none) => decide (pl ≤ l) && decide (u ≤ pu)
  | .inr (.inl rs), .inr (.inl ps) => rs.all (fun r => decide (r ∈ ps))
  | .inr (.inr b), .inr (.inr pb) => decide (pb = 0) || (decide (pb = b) || (decide (pb = 1) && decide (1 ≤ b)))
  | _, _ => false
theorem aLe_ok {s s1 : ML} {a p : AV} {v : Value} (h : aLe a p = true) (g : gV s a v) : gV s1 p v := by
  unfold aLe at h
  split at h
  · obtain ⟨h1, h2⟩ := b_and h
    obtain ⟨x, rfl, g1, g2, -⟩ := g
    have h1 := of_decide_eq_true h1
    have h2 := of_decide_eq_true h2
    exact ⟨x, rfl, by omega, by omega, fun k d hr => by cases hr⟩
  · obtain ⟨r, rfl, hr⟩ := g
    exact ⟨r, rfl, of_decide_eq_true (List.all_eq_true.mp h r hr)⟩
  · rename_i b pb
    obtain ⟨x, rfl, hx, hy⟩ := g
    simp only [Bool.or_eq_true, Bool.and_eq_true, decide_eq_true_eq] at h
    exact ⟨x, rfl, fun hp => hx (by omega), fun hp => hy (by omega)⟩
  · cases h
def leS : List AV → List AV → Bool
  | [], [] => true
  | a :: as, p :: ps => aLe a p && leS as ps
  | _, _ => false
theorem leS_ok {s s1 : ML} : ∀ {as ps : List AV} {vs : List Value}, leS as ps = true → gS s as vs → gS s1 ps vs
  | [], [], [], _, _ => trivial
  | a :: as, p :: ps, v :: vs, h, g => ⟨aLe_ok (b_and h).1 g.1, leS_ok (b_and h).2 g.2⟩
  | [], _ :: _, _, h, _ => by cases h
  | _ :: _, [], _, h, _ => by cases h
  | [], [], _ :: _, _, g => g.elim
  | _ :: _, _ :: _, [], _, g => g.elim
def leO (a p : Option AV) : Bool := match p, a with
  | none, _ => true
  | some p, some a => aLe a p
  | some _, none => false
def leL : AL → AL → Bool
  | [], [] => true
  | a :: as, p :: ps => leO a p && leL as ps
  | _, _ => false
theorem leL_len : ∀ {A P : AL}, leL A P = true → A.length = P.length
  | [], [], _ => rfl
  | _ :: _, _ :: _, h => by simp [leL_len (b_and h).2]
  | [], _ :: _, h => by cases h
  | _ :: _, [], h => by cases h
theorem leL_get : ∀ {A P : AL}, leL A P = true → ∀ (k : Nat) (p : AV), P[k]? = some (some p) → ∃ a, A[k]? = some (some a) ∧ aLe a p = true
  | [], [], _, k, p, hp => by simp at hp
  | a :: as, q :: ps, h, 0, p, hp => by
    cases hp
    have h1 := (b_and h).1
    unfold leO at h1
    cases a with
    | none => cases h1
    | some a => exact ⟨a, rfl, h1⟩
  | a :: as, q :: ps, h, k + 1, p, hp => by
    obtain ⟨b, hb, h2⟩ := leL_get (b_and h).2 k p (by simpa using hp)
    exact ⟨b, by simpa using hb, h2⟩
  | [], _ :: _, h, _, _, _ => by cases h
  | _ :: _, [], h, _, _, _ => by cases h
theorem leL_ok {s s1 : ML} {A P : AL} {L : ML} (h : leL A P = true) (g : gL s A L) : gL s1 P L := by
  refine ⟨(leL_len h).symm.trans g.1, fun k p hp => ?_⟩
  obtain ⟨a, ha, hl⟩ := leL_get h k p hp
  obtain ⟨v, hv, gv⟩ := g.2 k a ha
  exact ⟨v, hv, aLe_ok hl gv⟩
def aSt1 (k : Nat) (a : AV) : AV := match a with
  | .inl (lo, hi, _) => .inl (lo, hi, some (k, 0))
  | a => a
def aSt (P : AL) : AL := P.mapIdx (fun k o => o.map (aSt1 k))
theorem gL_start {s : ML} {P : AL} {L : ML} (g : gL s P L) : gL L (aSt P) L := by
  refine ⟨by unfold aSt; rw [List.length_mapIdx]; exact g.1, fun k a ha => ?_⟩
  unfold aSt at ha
  rw [List.getElem?_mapIdx] at ha
  cases hk : P[k]? with
  | none => rw [hk] at ha; cases ha
  | some o =>
    rw [hk] at ha
    cases o with
    | none => cases ha
    | some b =>
      cases ha
      obtain ⟨v, hv, gv⟩ := g.2 k b hk
      refine ⟨v, hv, ?_⟩
      obtain ⟨lo, hi, q⟩ | b := b
      · obtain ⟨x, rfl, g1, g2, -⟩ := gv
        refine ⟨x, rfl, g1, g2, fun k2 d hr => ?_⟩
        cases hr
        exact ⟨x, hv, by omega⟩
      · obtain rs | nz := b
        · exact gv
        · exact gv
def lInt (L : ML) (k : Nat) : Int := match L[k]? with
  | some (some (.int x)) => x.toInt
  | _ => 0
def mSum (ms : List (Nat × Nat × Int)) (L : ML) : Int := (ms.map (fun q => (q.2.1 : Int) * ((q.2.2 - lInt L q.1).toNat : Int))).sum
def mval (w : Nat) (ms : List (Nat × Nat × Int)) (L : ML) : Int := (w : Int) + mSum ms L
theorem mSum_nn (ms : List (Nat × Nat × Int)) (L : ML) : 0 ≤ mSum ms L := by
  induction ms with
  | nil => exact Int.le_refl 0
  | cons q ms ih =>
    show 0 ≤ (q.2.1 : Int) * ((q.2.2 - lInt L q.1).toNat : Int) + mSum ms L
    have := Int.mul_nonneg (Int.natCast_nonneg q.2.1) (Int.natCast_nonneg (q.2.2 - lInt L q.1).toNat)
    omega
/-- how much the counters of a head may cost, over those of the start -/
def mdrop (A : AL) : List (Nat × Nat × Int) → List (Nat × Nat × Int) → Option Int
  | _, [] => some 0
  | [], q :: r => match A[q.1]? with
    | some (some (.inl (lo, hi, _))) => if hi ≤ q.2.2 then (mdrop A [] r).map (fun z => (q.2.1 : Int) * (q.2.2 - lo) + z) else none
    | _ => none
  | q0 :: r0, q :: r => match A[q.1]? with
    | some (some (.inl (lo, hi, rel))) => if hi ≤ q.2.2 then
        (match rel with
        | some (k, d) => if k = q.1 ∧ q0 = q then (mdrop A r0 r).map (fun z => z - (q.2.1 : Int) * d) else (mdrop A (q0 :: r0) r).map (fun z => (q.2.1 : Int) * (q.2.2 - lo) + z)
        | none => (mdrop A (q0 :: r0) r).map (fun z => (q.2.1 : Int) * (q.2.2 - lo) + z)) else none
    | _ => none
theorem lInt_of {L : ML} {k : Nat} {x : Int32} (h : L[k]? = some (some (.int x))) : lInt L k = x.toInt := by unfold lInt; rw [h]
theorem mdrop_ok {s : ML} {A : AL} {L : ML} (g : gL s A L) : ∀ (ms ms0 : List (Nat × Nat × Int)) (z : Int), mdrop A ms0 ms = some z → mSum ms L ≤ z + mSum ms0 s := by
  have far : ∀ (q : Nat × Nat × Int) (lo hi : Int) (rel : Option (Nat × Int)), A[q.1]? = some (some (.inl (lo, hi, rel))) → hi ≤ q.2.2 → (q.2.1 : Int) * ((q.2.2 - lInt L q.1).toNat : Int) ≤ (q.2.1 : Int) * (q.2.2 - lo) := by
    intro q lo hi rel ha hh
    obtain ⟨v, hv, x, rfl, x1, x2, -⟩ := g.2 q.1 _ ha
    rw [lInt_of hv]
    exact Int.mul_le_mul_of_nonneg_left (by omega) (Int.natCast_nonneg _)
  intro ms
  induction ms with
  | nil =>
    intro ms0 z hz
    unfold mdrop at hz
    cases hz
    have := mSum_nn ms0 s
    show (0 : Int) ≤ _
    omega
  | cons q ms ih =>
    intro ms0 z hz
    show (q.2.1 : Int) * ((q.2.2 - lInt L q.1).toNat : Int) + mSum ms L ≤ _
    cases ms0 with
    | nil =>
      unfold mdrop at hz
      split at hz
      · rename_i lo hi rel ha
        obtain ⟨hh, hz⟩ := p_if hz
        obtain ⟨z1, hz1, rfl⟩ := Option.map_eq_some_iff.mp hz
        have h1 := far q lo hi rel ha hh
        have h2 := ih [] z1 hz1
        omega
      · cases hz
    | cons q0 r0 =>
      unfold mdrop at hz
      split at hz
      · rename_i lo hi rel ha
        obtain ⟨hh, hz2⟩ := p_if hz
        clear hz
        have h1 := far q lo hi rel ha hh
        split at hz2
        · rename_i k d
          split at hz2
          · rename_i hc
            obtain ⟨e1, e0⟩ := hc
            subst e0
            subst e1
            obtain ⟨z1, hz1, rfl⟩ := Option.map_eq_some_iff.mp hz2
            have h2 := ih r0 z1 hz1
            obtain ⟨v, hv, x, rfl, x1, x2, x3⟩ := g.2 q0.1 _ ha
            obtain ⟨y, hy, e⟩ := x3 _ _ rfl
            show _ ≤ z1 - (q0.2.1 : Int) * d + ((q0.2.1 : Int) * ((q0.2.2 - lInt s q0.1).toNat : Int) + mSum r0 s)
            rw [lInt_of hv, lInt_of hy]
            have h3 : (q0.2.1 : Int) * ((q0.2.2 - x.toInt).toNat : Int) ≤ (q0.2.1 : Int) * (((q0.2.2 - y.toInt).toNat : Int) - d) := Int.mul_le_mul_of_nonneg_left (by omega) (Int.natCast_nonneg _)
            rw [Int.mul_sub] at h3
            omega
          · obtain ⟨z1, hz1, rfl⟩ := Option.map_eq_some_iff.mp hz2
            have h2 := ih (q0 :: r0) z1 hz1
            omega
        · obtain ⟨z1, hz1, rfl⟩ := Option.map_eq_some_iff.mp hz2
          have h2 := ih (q0 :: r0) z1 hz1
          omega
      · cases hz
def relOf (as : List AV) (k : Nat) : Option (Nat × Int) := match as[k]? with
  | some (.inl (_, _, q)) => q
  | _ => none
def rfArgs (as : List AV) : List (Nat × Int × Int) → AL × List AV → AL × List AV
  | [], p => p
  | q :: qs, p => rfArgs as qs (rfL (relOf as q.1) q.2.1 q.2.2 p.1, rfS (relOf as q.1) q.2.1 q.2.2 p.2)
theorem gS_get {s : ML} : ∀ {as : List AV} {vs : List Value} (k : Nat) (v : Value), gS s as vs → vs[k]? = some v → ∃ a, as[k]? = some a ∧ gV s a v
  | a :: as, w :: vs, 0, v, g, h => by cases h; exact ⟨a, rfl, g.1⟩
  | a :: as, w :: vs, k + 1, v, g, h => by
    obtain ⟨b, hb, gb⟩ := gS_get k v g.2 (by simpa using h)
    exact ⟨b, by simpa using hb, gb⟩
  | [], [], _, _, _, h => by simp at h
  | [], _ :: _, _, _, g, _ => g.elim
  | _ :: _, [], _, _, g, _ => g.elim
theorem rfArgs_ok {s : ML} {as : List AV} {cas : List Value} (ga : gS s as cas) : ∀ (qs : List (Nat × Int × Int)) (A : AL) (st : List AV) (L : ML) (cst : List Value), (∀ q ∈ qs, ∃ y : Int32, cas[q.1]? = some (.int y) ∧ q.2.1 ≤ y.toInt ∧ y.toInt ≤ q.2.2) → gL s A L → gS s st cst → gL s (rfArgs as qs (A, st)).1 L ∧ gS s (rfArgs as qs (A, st)).2 cst
  | [], A, st, L, cst, _, gl, gs => ⟨gl, gs⟩
  | q :: qs, A, st, L, cst, hq, gl, gs => by
    obtain ⟨y, hy, y1, y2⟩ := hq q List.mem_cons_self
    have hX : rfX s (relOf as q.1) q.2.1 q.2.2 := by
      obtain ⟨a, ha, gv⟩ := gS_get q.1 _ ga hy
      unfold relOf
      rw [ha]
      obtain ⟨l, u, r⟩ | b := a
      · exact rfX_of gv y1 y2
      · intro k d h; cases h
    exact rfArgs_ok ga qs _ _ L cst (fun q2 h2 => hq q2 (List.mem_cons_of_mem _ h2)) (rfL_ok hX gl) (rfS_ok hX gs)
def leR (r p : Option AV) : Bool := match r, p with
  | none, none => true
  | some a, some p => aLe a p
  | _, _ => false
def retOK (alts : List (Option AV × List (Nat × Int × Int))) (ent : Bool) (A : AL) (r : Option AV) : Bool := alts.any (fun alt => leR r alt.1 && alt.2.all (fun q => ent && (match A[q.1]? with
  | some (some (.inl (l, u, some (k, d)))) => decide (k = q.1) && (decide (d = 0) && (decide (q.2.1 ≤ l) && decide (u ≤ q.2.2)))
  | _ => false)))
/-- from a place of a segment to its ends; the segment's start has weight w0 and counters ms0 -/
def expl (H : AH) (cts : List CT) (M : MM) (hds : List HD) (alts : List (Option AV × List (Nat × Int × Int))) (ent : Bool) (w0 : Nat) (ms0 : List (Nat × Nat × Int)) : Nat → Nat × AL × List AV → Bool
  | 0, _ => false
  | n + 1, p => match (mc M)[p.1]? with
    | none => false
    | some row => match aexec H row.2.1 row.2.2.2 p.1 p.2.1 p.2.2 with
      | none => false
      | some (.inl succs) => succs.all (fun q => match hds.find? (fun hd => hd.1 == q.1) with
        | some hd => leL q.2.1 hd.2.1 && (q.2.2.isEmpty && (match mdrop q.2.1 ms0 hd.2.2.2 with | some z => decide ((hd.2.2.1 : Int) + z + 1 ≤ (w0 : Int)) | none => false))
        | none => expl H cts M hds alts ent w0 ms0 n q)
      | some (.inr (.inl (y, as, rest))) => (match cts.find? (fun ct => ct.1 == y && leS as ct.2.1) with
        | none => false
        | some ct => ct.2.2.all (fun alt => expl H cts M hds alts ent w0 ms0 n (p.1 + 1, (rfArgs as alt.2 (p.2.1, rest)).1, alt.1.toList ++ (rfArgs as alt.2 (p.2.1, rest)).2)))
      | some (.inr (.inr r)) => retOK alts ent p.2.1 r
def CtOK (H : AH) (ct : CT) : Prop := ∀ M1, m_tab[ct.1]? = some M1 → ∀ (as : List Value) (h : MH), gS [] ct.2.1 as → gH H h → Nat.ble (entL as).length (mx M1) = true ∧ ∃ (r : Option Value) (h1 : MH) (alt : Option AV × List (Nat × Int × Int)), alt ∈ ct.2.2 ∧ Rn false [] M1 0 (m_ent (mx M1) as) [] h (r, h1) ∧ gR [] alt.1 r ∧ gH H h1 ∧ fH H h h1 ∧ ∀ q ∈ alt.2, ∃ y : Int32, as[q.1]? = some (.int y) ∧ q.2.1 ≤ y.toInt ∧ y.toInt ≤ q.2.2
def PO (H : AH) (alts : List (Option AV × List (Nat × Int × Int))) (M : MM) (ent : Bool) (s : ML) (i : Nat) (L : ML) (cst : List Value) (h : MH) : Prop := ∃ (r : Option Value) (h1 : MH) (alt : Option AV × List (Nat × Int × Int)), alt ∈ alts ∧ Rn false [] M i L cst h (r, h1) ∧ gR [] alt.1 r ∧ gH H h1 ∧ fH H h h1 ∧ ∀ q ∈ alt.2, ent = true ∧ ∃ y : Int32, s[q.1]? = some (some (.int y)) ∧ q.2.1 ≤ y.toInt ∧ y.toInt ≤ q.2.2
theorem leR_ok {s s1 : ML} {r p : Option AV} {v : Option Value} (h : leR r p = true) (g : gR s r v) : gR s1 p v := by
  unfold leR at h
  split at h
  · cases v with
    | none => trivial
    | some v => exact g.elim
  · cases v with
    | none => exact g.elim
    | some v => exact aLe_ok h g
  · cases h
theorem gR_l {s : ML} {r : Option AV} {v : Option Value} (g : gR [] r v) (hn : ∀ a, r = some a → aLe a a = true) : gS s r.toList v.toList := by
  cases r with
  | none =>
    cases v with
    | none => trivial
    | some v => exact g.elim
  | some a =>
    cases v with
    | none => exact g.elim
    | some v => exact ⟨aLe_ok (hn a rfl) g, trivial⟩
theorem expl_ok {H : AH} {cts : List CT} {M : MM} {hds : List HD} {alts : List (Option AV × List (Nat × Int × Int))} {ent : Bool} {w0 : Nat} {ms0 : List (Nat × Nat × Int)} (hcts : ∀ ct ∈ cts, CtOK H ct ∧ (∀ alt ∈ ct.2.2, ∀ a, alt.1 = some a → aLe a a = true) ∧ (m_tab[ct.1]?).isSome = true) (s : ML)
    (IH : ∀ hd ∈ hds, ∀ (L : ML) (h : MH), gL [] hd.2.1 L → gH H h → mval hd.2.2.1 hd.2.2.2 L < mval w0 ms0 s → PO H alts M false L hd.1 L [] h) :
    ∀ (n : Nat) (p : Nat × AL × List AV) (L : ML) (cst : List Value) (h : MH), expl H cts M hds alts ent w0 ms0 n p = true → gL s p.2.1 L → gS s p.2.2 cst → gH H h → PO H alts M ent s p.1 L cst h := by
  intro n
  induction n with
  | zero => intro p L cst h he; cases he
  | succ n ih =>
    intro p L cst h he gl gs gh
    unfold expl at he
    split at he
    · cases he
    · rename_i row hrow
      have ok := a_ok (xs := []) (ops := row.2.2.2) (i := p.1) row.2.1 gl gs gh
      have hst : mstep false [] M p.1 L cst h = mexec false [] row.2.1 row.2.2.2 p.1 L cst h := by unfold mstep; rw [hrow]
      split at he
      · cases he
      · rename_i succs ha
        rw [ha] at ok
        obtain ⟨i1, A1, st1, L1, cst1, h1, hmem, hm, gl1, gs1, gh1, gf1⟩ := ok
        have he := List.all_eq_true.mp he _ hmem
        have key : PO H alts M ent s i1 L1 cst1 h1 := by
          split at he
          · rename_i hd hfd
            obtain ⟨e1, he⟩ := b_and he
            obtain ⟨e2, e3⟩ := b_and he
            have hmem2 := List.mem_of_find?_eq_some hfd
            have hi : hd.1 = i1 := by simpa using List.find?_some hfd
            have est : st1 = [] := List.isEmpty_iff.mp e2
            subst est
            have ecs := gS_n gs1
            subst ecs
            split at e3
            · rename_i z hz
              have e3 := of_decide_eq_true e3
              have hdr := mdrop_ok gl1 hd.2.2.2 ms0 z hz
              obtain ⟨r, h2, alt, q1, q2, q3, q4, q5, q6⟩ := IH hd hmem2 L1 h1 (leL_ok e1 gl1) gh1 (by unfold mval; omega)
              rw [hi] at q2
              exact ⟨r, h2, alt, q1, q2, q3, q4, q5, fun q hq => by have := (q6 q hq).1; cases this⟩
            · cases e3
          · exact ih (i1, A1, st1) L1 cst1 h1 he gl1 gs1 gh1
        obtain ⟨r, h2, alt, q1, q2, q3, q4, q5, q6⟩ := key
        exact ⟨r, h2, alt, q1, Rn.step (hst.trans hm) q2, q3, q4, fH.tr gh1 gf1 q5, q6⟩
      · rename_i y as rest ha
        rw [ha] at ok
        obtain ⟨cas, crest, hm, ga, gr⟩ := ok
        split at he
        · cases he
        · rename_i ct hfd
          have hmem := List.mem_of_find?_eq_some hfd
          have hf9 := List.find?_some hfd
          obtain ⟨f1, f2⟩ := b_and (show (ct.1 == y && leS as ct.2.1) = true from hf9)
          have f1 : ct.1 = y := by simpa using f1
          obtain ⟨c1, c2, c3⟩ := hcts ct hmem
          obtain ⟨M1, hM1⟩ := Option.isSome_iff_exists.mp c3
          obtain ⟨d1, r, h2, alt, d2, d3, d4, d5, d6, d7⟩ := c1 M1 hM1 cas h (leS_ok f2 ga) gh
          have he := List.all_eq_true.mp he alt d2
          obtain ⟨gl2, gr2⟩ := rfArgs_ok ga alt.2 p.2.1 rest L crest d7 gl gr
          obtain ⟨r2, h3, alt2, q1, q2, q3, q4, q5, q6⟩ := ih _ L (r.toList ++ crest) h2 he gl2 (gS_app (gR_l d4 (c2 alt d2)) gr2) d5
          rw [f1] at hM1
          exact ⟨r2, h3, alt2, q1, Rn.call (hst.trans hm) hM1 d1 d3 q2, q3, q4, fH.tr d5 d6 q5, q6⟩
      · rename_i r ha
        rw [ha] at ok
        obtain ⟨cr, hm, gr⟩ := ok
        obtain ⟨alt, ha1, ha2⟩ := List.any_eq_true.mp he
        obtain ⟨e1, e2⟩ := b_and ha2
        refine ⟨cr, h, alt, ha1, Rn.ret (hst.trans hm), leR_ok e1 gr, gh, fH.rf H h, fun q hq => ?_⟩
        have e3 := List.all_eq_true.mp e2 q hq
        obtain ⟨e4, e5⟩ := b_and e3
        refine ⟨e4, ?_⟩
        split at e5
        · rename_i l u k d hA
          obtain ⟨z1, e5⟩ := b_and e5
          obtain ⟨z2, e5⟩ := b_and e5
          obtain ⟨z3, z4⟩ := b_and e5
          have z1 := of_decide_eq_true z1
          have z2 := of_decide_eq_true z2
          have z3 := of_decide_eq_true z3
          have z4 := of_decide_eq_true z4
          obtain ⟨v, hv, x, rfl, x1, x2, x3⟩ := gl.2 q.1 _ hA
          obtain ⟨y, hy, e⟩ := x3 _ _ rfl
          rw [z1] at hy
          exact ⟨y, hy, by omega, by omega⟩
        · cases e5
def entA : List AV → AL
  | [] => []
  | a :: as => if a_cat a = 2 then some a :: none :: entA as else some a :: entA as
def aEnt (n : Nat) (pre : List AV) : AL := entA pre ++ List.replicate (n - (entA pre).length) none
theorem entA_ok {s : ML} : ∀ {pre : List AV} {as : List Value}, gS s pre as → gL s (entA pre) (entL as)
  | [], [], _ => ⟨rfl, fun k a h => by simp [entA] at h⟩
  | a :: pre, v :: as, g => by
    have ih := entA_ok g.2
    have hc := gV_cat g.1
    unfold entA entL
    by_cases h2 : a_cat a = 2
    · rw [if_pos h2, if_pos (hc.trans h2)]
      refine ⟨by simp [ih.1], fun k b hb => ?_⟩
      match k, hb with
      | 0, hb => cases hb; exact ⟨v, rfl, g.1⟩
      | 1, hb => cases hb
      | k + 2, hb => exact ih.2 k b (by simpa using hb)
    · rw [if_neg h2, if_neg (fun q => h2 (hc.symm.trans q))]
      refine ⟨by simp [ih.1], fun k b hb => ?_⟩
      match k, hb with
      | 0, hb => cases hb; exact ⟨v, rfl, g.1⟩
      | k + 1, hb => exact ih.2 k b (by simpa using hb)
  | [], _ :: _, g => g.elim
  | _ :: _, [], g => g.elim
theorem aEnt_ok {s : ML} {n : Nat} {pre : List AV} {as : List Value} (g : gS s pre as) : gL s (aEnt n pre) (m_ent n as) := by
  have h := entA_ok g
  unfold aEnt m_ent
  refine ⟨by simp [h.1], fun k a hk => ?_⟩
  by_cases e : k < (entA pre).length
  · rw [List.getElem?_append_left e] at hk
    rw [List.getElem?_append_left (by rw [← h.1]; exact e)]
    exact h.2 k a hk
  · rw [List.getElem?_append_right (by omega)] at hk
    have := List.mem_of_getElem? hk
    rw [List.mem_replicate] at this
    exact absurd this.2 (by simp)
theorem m_ent_1 {n : Nat} : ∀ {as : List Value} {k : Nat} {v : Value}, (∀ w ∈ as, ¬ w.category = 2) → (m_ent n as)[k]? = some (some v) → as[k]? = some v := by
  intro as k v hc hk
  have e1 : ∀ (as : List Value), (∀ w ∈ as, ¬ w.category = 2) → entL as = as.map some := by
    intro as
    induction as with
    | nil => intro _; rfl
    | cons w ws ih =>
      intro hc
      unfold entL
      rw [if_neg (hc w List.mem_cons_self), ih (fun z hz => hc z (List.mem_cons_of_mem _ hz))]
      rfl
  unfold m_ent at hk
  rw [e1 as hc] at hk
  by_cases e : k < (as.map some).length
  · rw [List.getElem?_append_left e, List.getElem?_map] at hk
    cases h : as[k]? with
    | none => rw [h] at hk; cases hk
    | some w => rw [h] at hk; cases hk; rfl
  · rw [List.getElem?_append_right (by omega)] at hk
    have := List.mem_of_getElem? hk
    rw [List.mem_replicate] at this
    exact absurd this.2 (by simp)
/-- the test of a contract: its entry (weight w), its loop heads -/
def chkC (H : AH) (cts : List CT) (hds : List HD) (w fuel : Nat) (ct : CT) : Bool := match m_tab[ct.1]? with
  | none => false
  | some M => Nat.ble (entA ct.2.1).length (mx M) && ((ct.2.1.all (fun a => decide (a_cat a = 1)) || ct.2.2.all (fun alt => alt.2.isEmpty)) && (ct.2.2.all (fun alt => match alt.1 with | some a => aLe a a | none => true) &&
      (expl H cts M hds ct.2.2 true w [] fuel (0, aSt (aEnt (mx M) ct.2.1), []) && hds.all (fun hd => expl H cts M hds ct.2.2 false hd.2.2.1 hd.2.2.2 fuel (hd.1, aSt hd.2.1, [])))))
def CtP (H : AH) (ct : CT) : Prop := CtOK H ct ∧ (∀ alt ∈ ct.2.2, ∀ a, alt.1 = some a → aLe a a = true) ∧ (m_tab[ct.1]?).isSome = true
theorem ct_of {H : AH} {cts : List CT} {hds : List HD} {w fuel : Nat} {ct : CT} (hcts : ∀ c ∈ cts, CtP H c) (hc : chkC H cts hds w fuel ct = true) : CtP H ct := by
  unfold chkC at hc
  split at hc
  · cases hc
  · rename_i M hM
    obtain ⟨c1, hc⟩ := b_and hc
    obtain ⟨c2, hc⟩ := b_and hc
    obtain ⟨c3, hc⟩ := b_and hc
    obtain ⟨c4, c5⟩ := b_and hc
    refine ⟨?_, ?_, by rw [hM]; rfl⟩
    · intro M1 hM1 as h gs gh
      rw [hM] at hM1
      cases hM1
      have heads : ∀ (N : Nat) (hd : HD), hd ∈ hds → ∀ (L : ML) (h : MH), gL [] hd.2.1 L → gH H h → mval hd.2.2.1 hd.2.2.2 L < (N : Int) → PO H ct.2.2 M false L hd.1 L [] h := by
        intro N
        induction N with
        | zero =>
          intro hd _ L h _ _ hm
          have := mSum_nn hd.2.2.2 L
          unfold mval at hm
          omega
        | succ N ihN =>
          intro hd hmem L h gl gh hm
          exact expl_ok hcts L (fun hd2 hm2 L2 h2 g2 gh2 hlt => ihN hd2 hm2 L2 h2 g2 gh2 (by omega)) fuel (hd.1, aSt hd.2.1, []) L [] h (List.all_eq_true.mp c5 hd hmem) (gL_start gl) trivial gh
      have gl0 := gL_start (aEnt_ok (n := mx M) gs)
      refine ⟨by rw [← (entA_ok gs).1]; exact c1, ?_⟩
      obtain ⟨r, h1, alt, q1, q2, q3, q4, q5, q6⟩ := expl_ok hcts (m_ent (mx M) as) (fun hd2 hm2 L2 h2 g2 gh2 hlt => heads (mval hd2.2.2.1 hd2.2.2.2 L2 + 1).toNat hd2 hm2 L2 h2 g2 gh2 (by have := mSum_nn hd2.2.2.2 L2; unfold mval; omega)) fuel (0, aSt (aEnt (mx M) ct.2.1), []) (m_ent (mx M) as) [] h c4 gl0 trivial gh
      refine ⟨r, h1, alt, q1, q2, q3, q4, q5, fun q hq => ?_⟩
      obtain ⟨-, y, hy, y1, y2⟩ := q6 q hq
      have hnc : ∀ w ∈ as, ¬ w.category = 2 := by
        rcases (Bool.or_eq_true _ _).mp c2 with c2 | c2
        · intro w hw hcat
          obtain ⟨k, hk⟩ := List.getElem?_of_mem hw
          obtain ⟨a, ha, ga⟩ := gS_get k w gs hk
          have := of_decide_eq_true (List.all_eq_true.mp c2 a (List.mem_of_getElem? ha))
          rw [gV_cat ga] at hcat
          omega
        · have := List.all_eq_true.mp c2 alt q1
          rw [List.isEmpty_iff.mp this] at hq
          exact absurd hq List.not_mem_nil
      exact ⟨y, m_ent_1 hnc hy, y1, y2⟩
    · intro alt hal a ha
      have := List.all_eq_true.mp c3 alt hal
      rw [ha] at this
      exact this
