/-! the sheets: whether one is lost, of what form, how large; the answers of sheet, lose, put, copy, write (printed by wip/p1/sheetx.py) -/
abbrev lo (h : MH) (q : Nat) : Int32 := fI h (115 + 2 * q) 1
abbrev fo (h : MH) (q : Nat) : Int32 := fI h (115 + 2 * q) 2
abbrev si (h : MH) (q : Nat) : Int32 := fI h (115 + 2 * q) 3
abbrev okS (s : Int32) : Prop := 0 ≤ s.toInt ∧ s.toInt ≤ 3
abbrev okF (s : Int32) : Prop := 0 ≤ s.toInt ∧ s.toInt ≤ 2
/-- the sheets of the class stay; of the model -/
def smX (h h1 : MH) : Prop := ∀ q, q < 4 → lo h1 q = lo h q ∧ fo h1 q = fo h q ∧ si h1 q = si h q
def smY (h h1 : MH) : Prop := h1[148]? = h[148]? ∧ h1[149]? = h[149]? ∧ h1[150]? = h[150]?
theorem smX.rf (h : MH) : smX h h := fun _ _ => ⟨rfl, rfl, rfl⟩
theorem smY.rf (h : MH) : smY h h := ⟨rfl, rfl, rfl⟩
theorem smX.tr {h h1 h2 : MH} (a : smX h h1) (b : smX h1 h2) : smX h h2 := fun q hq => ⟨(b q hq).1.trans (a q hq).1, (b q hq).2.1.trans (a q hq).2.1, (b q hq).2.2.trans (a q hq).2.2⟩
theorem smY.tr {h h1 h2 : MH} (a : smY h h1) (b : smY h1 h2) : smY h h2 := ⟨b.1.trans a.1, b.2.1.trans a.2.1, b.2.2.trans a.2.2⟩
theorem smX_na {h : MH} {a k : Nat} {x : Int32} (e : ∀ q, q < 4 → ¬ a = 115 + 2 * q) : smX h (setF h a k x) := fun q hq => ⟨fI_na (e q hq), fI_na (e q hq), fI_na (e q hq)⟩
theorem smX_n0 {h : MH} {k : Nat} {x : Int32} : smX h (setF h 0 k x) := smX_na (fun q _ => by omega)
theorem smY_F {h : MH} {k : Nat} {x : Int32} : smY h (setF h 123 k x) := ⟨setF_ne (by decide), setF_ne (by decide), setF_ne (by decide)⟩
theorem smX_to {h h1 : MH} (s : sameTo 123 h h1) : smX h h1 := fun q hq => ⟨fI_cong (s _ (by omega)), fI_cong (s _ (by omega)), fI_cong (s _ (by omega))⟩
theorem smY_from {h h1 : MH} (s : sameFrom 123 h h1) : smY h h1 := ⟨s _ (by omega), s _ (by omega), s _ (by omega)⟩
def bad32 : List (Nat × Nat) := [(3, 1), (3, 2), (3, 3)]
theorem smX_fr {h h1 : MH} {bb : Bool} (g : gH HCs h) (f : FR bad32 bb h h1) : smX h h1 := fun q hq => by
  obtain ⟨s0, s1, s2, s3, s4, s5⟩ := sh_f q hq
  exact ⟨FR_fI f g s1 (by decide), FR_fI f g s2 (by decide), FR_fI f g s3 (by decide)⟩
theorem aI_na {h : MH} {a b k j : Nat} {x : Int32} (e : ¬ a = b) : aI (setA h a k x) b j = aI h b j := aI_cong (setA_ne e)
theorem aI_nj {h : MH} {a k j : Nat} {x : Int32} (e : ¬ j = k) : aI (setA h a k x) a j = aI h a j := by
  unfold setA
  split
  · rename_i t l hx
    have hl : a < h.length := (List.getElem?_eq_some_iff.mp hx).1
    unfold aI
    rw [List.getElem?_set_self hl, hx]
    dsimp only
    rw [List.getD_eq_getElem?_getD, List.getElem?_set_ne (fun q => e q.symm), List.getD_eq_getElem?_getD]
  · rfl
theorem aI_eq {H : AH} {h : MH} {t n a j : Nat} {lo hi : Int} {fz : Bool} {x : Int32} (gh : gH H h) (hf : H[a]? = some (.inl (t, n, lo, hi, fz))) (hj : j < n) : aI (setA h a j x) a j = x := by
  obtain ⟨y, hy, l, rfl, hl, hb⟩ := gh.2 a _ hf
  have ha : a < h.length := (List.getElem?_eq_some_iff.mp hy).1
  unfold setA
  rw [hy]
  dsimp only
  unfold aI
  rw [List.getElem?_set_self ha]
  dsimp only
  rw [List.getD_eq_getElem?_getD, List.getElem?_set_self (by omega)]
  rfl
section BST
variable {M : MM} {i : Nat} {L : ML} {st : List Value} {h : MH} {P : Option Value → MH → Prop} {pc len : Nat} {ops : List Int} {H : AH}
theorem RP.bst {a n : Nat} {lo hi : Int} {fz : Bool} {j x : Int32} (hrow : (mc M)[i]? = some (pc, .bastore, len, ops)) (gh : gH H h) (hf : H[a]? = some (.inl (1, n, lo, hi, fz))) (hx : m_fit 1 (.int x) = true) (j1 : 0 ≤ j.toInt) (j2 : j.toInt < (n : Int)) (k : RP M (i + 1) L st (setA h a j.toNatClampNeg x) P) : RP M i L (.int x :: .int j :: .ref a :: st) h P := by
  have hok := z_ok j1 j2
  obtain ⟨l, hl0, hl, -, -, -⟩ := aI_sp gh hf (m_ok_lt hok)
  refine RP.step ?_ k
  unfold mstep
  rw [hrow]
  show o_ast 1 i L (Value.int x :: Value.int j :: Value.ref a :: st) h = _
  unfold o_ast setA
  dsimp only
  rw [hl0]
  dsimp only
  rw [hl, hok, hx]
  rfl
end BST
/-- lose: the answer and what stays -/
def LoX (s : Int32) (h : MH) (r : Option Value) (h1 : MH) : Prop := gH HCs h1 ∧ fH HCs h h1 ∧ ((¬ okS s ∧ r = some (.int (-2)) ∧ smX h h1) ∨ (okS s ∧ ¬ lo h s.toNatClampNeg = 0 ∧ r = some (.int (-11)) ∧ smX h h1) ∨ (okS s ∧ lo h s.toNatClampNeg = 0 ∧ r = some (.int (si h s.toNatClampNeg)) ∧ ∀ q, q < 4 → lo h1 q = (if q = s.toNatClampNeg then 1 else lo h q) ∧ fo h1 q = fo h q ∧ si h1 q = si h q))
def LoY (s : Int32) (h : MH) (r : Option Value) (h1 : MH) : Prop := gH HMs h1 ∧ fH HMs h h1 ∧ ((¬ okS s ∧ r = some (.int (-2)) ∧ smY h h1) ∨ (okS s ∧ aI h 148 s.toNatClampNeg = 0 ∧ r = some (.int (-11)) ∧ smY h h1) ∨ (okS s ∧ ¬ aI h 148 s.toNatClampNeg = 0 ∧ r = some (.int (aI h 150 s.toNatClampNeg)) ∧ (∀ q, aI h1 148 q = if q = s.toNatClampNeg then 0 else aI h 148 q) ∧ h1[149]? = h[149]? ∧ h1[150]? = h[150]?))
theorem x_loseE (s : Int32) (h : MH) (gh : gH HCs h) : RP m_X6_lose 0 (m_ent 2 [.ref 0, .int s]) [] h (LoX s h) := by
  have z0 : (0 : Int32).toInt = 0 := by decide
  have z1 : (1 : Int32).toInt = 1 := by decide
  have z2 : (2 : Int32).toInt = 2 := by decide
  have z3 : (3 : Int32).toInt = 3 := by decide
  have z4 : (4 : Int32).toInt = 4 := by decide
  have z60 : (60 : Int32).toInt = 60 := by decide
  refine RP.step (i1 := 1) (L1 := [some (.ref 0), some (.int s)]) (st1 := [.int s]) (h1 := h) rfl ?_
  refine RP.step (i1 := 2) (L1 := [some (.ref 0), some (.int s)]) (st1 := [.int 4, .int s]) (h1 := h) rfl ?_
  refine c_isBelow (v := s) (n := 4) rfl (fun c1a c1b => ?_) (fun c1 => ?_)
  · skip
    rw [z4] at c1b
    obtain ⟨S1, S2, S3⟩ := sh_ix c1a c1b
    obtain ⟨Sf0, Sf1, Sf2, Sf3, Sf4, Sf5⟩ := sh_f s.toNatClampNeg S3
    have hok : okS s := ⟨c1a, by omega⟩
    refine RP.step (i1 := 6) (L1 := [some (.ref 0), some (.int s)]) (st1 := []) (h1 := h) rfl ?_
    refine RP.step (i1 := 7) (L1 := [some (.ref 0), some (.int s)]) (st1 := [.ref 0]) (h1 := h) rfl ?_
    refine RP.getR (i := 7) rfl gh rfl ?_
    refine RP.step (i1 := 9) (L1 := [some (.ref 0), some (.int s)]) (st1 := [.int s, .ref 9]) (h1 := h) rfl ?_
    refine RP.aald (i := 9) rfl gh rfl rfl S1 S2 ?_
    show RP m_X6_lose 10 [some (.ref 0), some (.int s)] [.ref (115 + 2 * s.toNatClampNeg)] h _
    refine RP.getI (i := 10) rfl gh Sf1 (fun b31 b32 => ?_)
    show RP m_X6_lose 11 [some (.ref 0), some (.int s)] [.int (fI h (115 + 2 * s.toNatClampNeg) 1)] h _
    refine RP.ifc (x := fI h (115 + 2 * s.toNatClampNeg) 1) rfl (fun c4 => ?_) (fun c4 => ?_)
    · skip
      have c4 := m_eq_iff.mp c4
      refine RP.step (i1 := 17) (L1 := [some (.ref 0), some (.int s)]) (st1 := [.ref 0]) (h1 := h) rfl ?_
      refine RP.getR (i := 17) rfl gh rfl ?_
      refine RP.step (i1 := 19) (L1 := [some (.ref 0), some (.int s)]) (st1 := [.int s, .ref 9]) (h1 := h) rfl ?_
      refine RP.aald (i := 19) rfl gh rfl rfl S1 S2 ?_
      show RP m_X6_lose 20 [some (.ref 0), some (.int s)] [.ref (115 + 2 * s.toNatClampNeg)] h _
      refine RP.step (i1 := 21) (L1 := [some (.ref 0), some (.int s)]) (st1 := [.int 1, .ref (115 + 2 * s.toNatClampNeg)]) (h1 := h) rfl ?_
      refine RP.putI (i := 21) (x := 1) rfl gh Sf1 rfl ?_
      obtain ⟨g5, f5⟩ := setF_s (x := 1) gh Sf1 (by decide) (by decide)
      show RP m_X6_lose 22 [some (.ref 0), some (.int s)] [] ((setF h (115 + 2 * s.toNatClampNeg) 1 1)) _
      refine RP.step (i1 := 23) (L1 := [some (.ref 0), some (.int s)]) (st1 := [.ref 0]) (h1 := (setF h (115 + 2 * s.toNatClampNeg) 1 1)) rfl ?_
      refine RP.getR (i := 23) rfl g5 rfl ?_
      refine RP.step (i1 := 25) (L1 := [some (.ref 0), some (.int s)]) (st1 := [.int s, .ref 9]) (h1 := (setF h (115 + 2 * s.toNatClampNeg) 1 1)) rfl ?_
      refine RP.aald (i := 25) rfl g5 rfl rfl S1 S2 ?_
      show RP m_X6_lose 26 [some (.ref 0), some (.int s)] [.ref (115 + 2 * s.toNatClampNeg)] ((setF h (115 + 2 * s.toNatClampNeg) 1 1)) _
      refine RP.getI (i := 26) rfl g5 Sf3 (fun b51 b52 => ?_)
      show RP m_X6_lose 27 [some (.ref 0), some (.int s)] [.int (fI ((setF h (115 + 2 * s.toNatClampNeg) 1 1)) (115 + 2 * s.toNatClampNeg) 3)] ((setF h (115 + 2 * s.toNatClampNeg) 1 1)) _
      refine RP.ret rfl ⟨g5, f5, Or.inr (Or.inr ⟨hok, (by first | assumption | exact Decidable.of_not_not (by assumption)), ?_, fun q hq => ⟨?_, ?_, ?_⟩⟩)⟩
      · show some (Value.int (fI (setF h (115 + 2 * s.toNatClampNeg) 1 1) (115 + 2 * s.toNatClampNeg) 3)) = _
        rw [fI_nk (by decide)]
      · by_cases e : q = s.toNatClampNeg
        · subst e
          rw [if_pos rfl]
          exact fI_eq gh Sf1
        · rw [if_neg e]
          exact fI_na (by omega)
      · by_cases e : q = s.toNatClampNeg
        · subst e
          exact fI_nk (by decide)
        · exact fI_na (by omega)
      · by_cases e : q = s.toNatClampNeg
        · subst e
          exact fI_nk (by decide)
        · exact fI_na (by omega)
    · skip
      have c4 := m_ff m_eq_iff c4
      refine RP.step (i1 := 13) (L1 := [some (.ref 0), some (.int s)]) (st1 := [.ref 0]) (h1 := h) rfl ?_
      refine RP.step (i1 := 14) (L1 := [some (.ref 0), some (.int s)]) (st1 := [.int 1, .ref 0]) (h1 := h) rfl ?_
      refine c_find (v := 1) rfl rfl rfl rfl rfl gh (fun g9 t9 => ?_)
      exact RP.ret rfl ⟨g9, t9, Or.inr (Or.inl ⟨hok, by assumption, rfl, smX_n0⟩)⟩
  · skip
    refine RP.step (i1 := 4) (L1 := [some (.ref 0), some (.int s)]) (st1 := []) (h1 := h) rfl ?_
    refine RP.step (i1 := 5) (L1 := [some (.ref 0), some (.int s)]) (st1 := [.int (-2)]) (h1 := h) rfl ?_
    exact RP.ret rfl ⟨gh, fH.rf _ _, Or.inl ⟨fun w => c1 ⟨w.1, by have := w.2; omega⟩, rfl, smX.rf _⟩⟩
theorem y_loseE (s : Int32) (h : MH) (gh : gH HMs h) : RP m_X7_lose 0 (m_ent 2 [.ref 123, .int s]) [] h (LoY s h) := by
  have z0 : (0 : Int32).toInt = 0 := by decide
  have z1 : (1 : Int32).toInt = 1 := by decide
  have z2 : (2 : Int32).toInt = 2 := by decide
  have z3 : (3 : Int32).toInt = 3 := by decide
  have z4 : (4 : Int32).toInt = 4 := by decide
  have z60 : (60 : Int32).toInt = 60 := by decide
  have s148 : HMs[148]? = some (.inl (1, 4, 0, 1, false)) := rfl
  have s149 : HMs[149]? = some (.inl (0, 4, -2147483648, 2147483647, false)) := rfl
  have s150 : HMs[150]? = some (.inl (0, 4, 0, 60, false)) := rfl
  have s151 : HMs[151]? = some (.inl (0, 240, -2147483648, 2147483647, false)) := rfl
  refine RP.step (i1 := 1) (L1 := [some (.ref 123), some (.int s)]) (st1 := [.int s]) (h1 := h) rfl ?_
  refine c_isSheet (v := s) rfl (fun c1a c1b => ?_) (fun c1 => ?_)
  · skip
    have hok : okS s := ⟨c1a, c1b⟩
    have hn := nat_cl c1a
    refine RP.step (i1 := 5) (L1 := [some (.ref 123), some (.int s)]) (st1 := []) (h1 := h) rfl ?_
    refine RP.step (i1 := 6) (L1 := [some (.ref 123), some (.int s)]) (st1 := [.ref 123]) (h1 := h) rfl ?_
    refine RP.getR (i := 6) rfl gh rfl ?_
    refine RP.step (i1 := 8) (L1 := [some (.ref 123), some (.int s)]) (st1 := [.int s, .ref 148]) (h1 := h) rfl ?_
    refine RP.ald (i := 8) (t := 1) (j := s) rfl (Or.inr rfl) gh s148 c1a (by show _ < ((4 : Nat) : Int); omega) (fun b31 b32 => ?_)
    refine RP.ifc (x := aI h 148 s.toNatClampNeg) rfl (fun c4 => ?_) (fun c4 => ?_)
    · skip
      have c4 := m_ne_iff.mp c4
      refine RP.step (i1 := 15) (L1 := [some (.ref 123), some (.int s)]) (st1 := [.ref 123]) (h1 := h) rfl ?_
      refine RP.getR (i := 15) rfl gh rfl ?_
      refine RP.step (i1 := 17) (L1 := [some (.ref 123), some (.int s)]) (st1 := [.int s, .ref 148]) (h1 := h) rfl ?_
      refine RP.step (i1 := 18) (L1 := [some (.ref 123), some (.int s)]) (st1 := [.int 0, .int s, .ref 148]) (h1 := h) rfl ?_
      refine RP.bst (i := 18) (j := s) (x := 0) rfl gh s148 (by decide) c1a (by show _ < ((4 : Nat) : Int); omega) ?_
      obtain ⟨g5, f5⟩ := setA_s (j := s.toNatClampNeg) (x := 0) gh s148 (by decide) (by decide)
      refine RP.step (i1 := 20) (L1 := [some (.ref 123), some (.int s)]) (st1 := [.ref 123]) (h1 := (setA h 148 s.toNatClampNeg 0)) rfl ?_
      refine RP.getR (i := 20) rfl g5 rfl ?_
      refine RP.step (i1 := 22) (L1 := [some (.ref 123), some (.int s)]) (st1 := [.int s, .ref 150]) (h1 := (setA h 148 s.toNatClampNeg 0)) rfl ?_
      refine RP.ald (i := 22) (t := 0) (j := s) rfl (Or.inl rfl) g5 s150 c1a (by show _ < ((4 : Nat) : Int); omega) (fun b51 b52 => ?_)
      refine RP.ret rfl ⟨g5, f5, Or.inr (Or.inr ⟨hok, by assumption, ?_, fun q => ?_, setA_ne (by decide), setA_ne (by decide)⟩)⟩
      · show some (Value.int (aI (setA h 148 s.toNatClampNeg 0) 150 s.toNatClampNeg)) = _
        rw [aI_na (by decide)]
      · by_cases e : q = s.toNatClampNeg
        · subst e
          rw [if_pos rfl]
          exact aI_eq gh s148 (by omega)
        · rw [if_neg e]
          exact aI_nj e
    · skip
      have c4 := m_ff m_ne_iff c4
      refine RP.step (i1 := 11) (L1 := [some (.ref 123), some (.int s)]) (st1 := [.ref 123]) (h1 := h) rfl ?_
      refine RP.step (i1 := 12) (L1 := [some (.ref 123), some (.int s)]) (st1 := [.int 1, .ref 123]) (h1 := h) rfl ?_
      refine c_meets (v := 1) rfl rfl rfl rfl rfl gh (fun g9 t9 => ?_)
      exact RP.ret rfl ⟨g9, t9, Or.inr (Or.inl ⟨hok, (by first | assumption | exact Decidable.of_not_not (by assumption)), rfl, smY_F⟩)⟩
  · skip
    refine RP.step (i1 := 3) (L1 := [some (.ref 123), some (.int s)]) (st1 := []) (h1 := h) rfl ?_
    refine RP.step (i1 := 4) (L1 := [some (.ref 123), some (.int s)]) (st1 := [.int (-2)]) (h1 := h) rfl ?_
    exact RP.ret rfl ⟨gh, fH.rf _ _, Or.inl ⟨fun w => c1 w, rfl, smY.rf _⟩⟩
theorem x_fill (a : Nat) (ha : a ∈ [116, 118, 120, 122]) (v : Int32) (h : MH) (gh : gH HCs h) : RP m_J7_fill_53178 0 (m_ent 4 [.ref a, .int v]) [] h (fun r h1 => (r = none ∧ gH HCs h1 ∧ fH HCs h h1) ∧ FR bad32 true h h1) := by
  have k : RP m_J7_fill_53178 0 (m_ent 4 [.ref a, .int v]) [] h (fun r h1 => r = none ∧ gH HCs h1 ∧ fH HCs h h1) := by
    obtain ⟨d1, r, h1, alt, d2, d3, d4, d5, d6, -⟩ := p_sc17.1 m_J7_fill_53178 rfl [.ref a, .int v] h ⟨⟨a, rfl, ha⟩, gV_top [] v, trivial⟩ gh
    refine ⟨r, h1, d3, ?_, d5, d6⟩
    have e : alt = (none, []) := by simpa [sc17] using d2
    subst e
    rcases r with _ | r
    · rfl
    · exact d4.elim
  exact RP.fr (ms := [187]) (y := 187) (by decide +kernel) (by decide) rfl k
theorem it_mem {q : Nat} (hq : q < 4) : 116 + 2 * q ∈ [116, 118, 120, 122] := by
  match q, hq with
  | 0, _ => decide
  | 1, _ => decide
  | 2, _ => decide
  | 3, _ => decide
def setS (h h1 : MH) (q : Nat) (l f n : Int32) : Prop := ∀ p, p < 4 → lo h1 p = (if p = q then l else lo h p) ∧ fo h1 p = (if p = q then f else fo h p) ∧ si h1 p = (if p = q then n else si h p)
theorem x_begin (q : Nat) (hq : q < 4) (f n : Int32) (n1 : 0 ≤ n.toInt) (n2 : n.toInt ≤ 60) (h : MH) (gh : gH HCs h) : RP m_X3_begin 0 (m_ent 3 [.ref (115 + 2 * q), .int f, .int n]) [] h (fun r h1 => r = none ∧ gH HCs h1 ∧ fH HCs h h1 ∧ setS h h1 q 0 f n) := by
  obtain ⟨s0, s1, s2, s3, s4, s5⟩ := sh_f q hq
  refine RP.step rfl ?_
  refine RP.getR rfl gh s0 ?_
  refine RP.step rfl ?_
  refine RP.call (M1 := m_J7_fill_53178) (as := [.ref (116 + 2 * q), .int 0]) (rest := []) rfl rfl rfl (x_fill (116 + 2 * q) (it_mem hq) 0 h gh) (fun r h1 w => ?_)
  obtain ⟨⟨rfl, g1, f1⟩, fr⟩ := w
  have sm := smX_fr gh fr
  obtain ⟨g2, f2⟩ := setF_s (x := 0) g1 s1 (by decide) (by decide)
  obtain ⟨g3, f3⟩ := setF_s (x := f) g2 s2 (i32_ge _) (i32_le _)
  obtain ⟨g4, f4⟩ := setF_s (x := n) g3 s3 n1 n2
  refine RP.step rfl ?_
  refine RP.step rfl ?_
  refine RP.putI (x := 0) rfl g1 s1 rfl ?_
  refine RP.step rfl ?_
  refine RP.step rfl ?_
  refine RP.putI (x := f) rfl g2 s2 rfl ?_
  refine RP.step rfl ?_
  refine RP.step rfl ?_
  refine RP.putI (x := n) rfl g3 s3 rfl ?_
  refine RP.ret rfl ⟨rfl, g4, fH.tr g3 (fH.tr g2 (fH.tr g1 f1 f2) f3) f4, fun p hp => ?_⟩
  by_cases e : p = q
  · subst e
    rw [if_pos rfl, if_pos rfl, if_pos rfl]
    exact ⟨(fI_nk (by decide)).trans ((fI_nk (by decide)).trans (fI_eq g1 s1)), (fI_nk (by decide)).trans (fI_eq g2 s2), fI_eq g3 s3⟩
  · rw [if_neg e, if_neg e, if_neg e]
    have ne : ¬ 115 + 2 * q = 115 + 2 * p := by omega
    exact ⟨(fI_na ne).trans ((fI_na ne).trans ((fI_na ne).trans (sm p hp).1)), (fI_na ne).trans ((fI_na ne).trans ((fI_na ne).trans (sm p hp).2.1)), (fI_na ne).trans ((fI_na ne).trans ((fI_na ne).trans (sm p hp).2.2))⟩
def okN (s f n : Int32) : Prop := okS s ∧ okF f ∧ n.toInt ≤ 60
def ShX (s f n : Int32) (h : MH) (r : Option Value) (h1 : MH) : Prop := gH HCs h1 ∧ fH HCs h h1 ∧ ((¬ okN s f n ∧ r = some (.int (-2)) ∧ smX h h1) ∨ (okN s f n ∧ n.toInt < 0 ∧ r = some (.int (-15)) ∧ smX h h1) ∨ (okN s f n ∧ ¬ n.toInt < 0 ∧ r = some (.int n) ∧ setS h h1 s.toNatClampNeg 0 f n))
def ShY (s f n : Int32) (h : MH) (r : Option Value) (h1 : MH) : Prop := gH HMs h1 ∧ fH HMs h h1 ∧ ((¬ okN s f n ∧ r = some (.int (-2)) ∧ smY h h1) ∨ (okN s f n ∧ n.toInt < 0 ∧ r = some (.int (-15)) ∧ smY h h1) ∨ (okN s f n ∧ ¬ n.toInt < 0 ∧ r = some (.int n) ∧ ∀ p, aI h1 148 p = (if p = s.toNatClampNeg then 1 else aI h 148 p) ∧ aI h1 149 p = (if p = s.toNatClampNeg then f else aI h 149 p) ∧ aI h1 150 p = (if p = s.toNatClampNeg then n else aI h 150 p)))
theorem x_sheetE (s f n : Int32) (h : MH) (gh : gH HCs h) : RP m_X6_sheet 0 (m_ent 4 [.ref 0, .int s, .int f, .int n]) [] h (ShX s f n h) := by
  have z0 : (0 : Int32).toInt = 0 := by decide
  have z1 : (1 : Int32).toInt = 1 := by decide
  have z2 : (2 : Int32).toInt = 2 := by decide
  have z3 : (3 : Int32).toInt = 3 := by decide
  have z4 : (4 : Int32).toInt = 4 := by decide
  have z60 : (60 : Int32).toInt = 60 := by decide
  refine RP.step (i1 := 1) (L1 := [some (.ref 0), some (.int s), some (.int f), some (.int n)]) (st1 := [.int s]) (h1 := h) rfl ?_
  refine RP.step (i1 := 2) (L1 := [some (.ref 0), some (.int s), some (.int f), some (.int n)]) (st1 := [.int 4, .int s]) (h1 := h) rfl ?_
  refine c_isBelow (v := s) (n := 4) rfl (fun c1a c1b => ?_) (fun c1 => ?_)
  · skip
    rw [z4] at c1b
    obtain ⟨S1, S2, S3⟩ := sh_ix c1a c1b
    obtain ⟨Sf0, Sf1, Sf2, Sf3, Sf4, Sf5⟩ := sh_f s.toNatClampNeg S3
    have hok : okS s := ⟨c1a, by omega⟩
    refine RP.step (i1 := 4) (L1 := [some (.ref 0), some (.int s), some (.int f), some (.int n)]) (st1 := []) (h1 := h) rfl ?_
    refine RP.step (i1 := 5) (L1 := [some (.ref 0), some (.int s), some (.int f), some (.int n)]) (st1 := [.int f]) (h1 := h) rfl ?_
    refine RP.step (i1 := 6) (L1 := [some (.ref 0), some (.int s), some (.int f), some (.int n)]) (st1 := [.int 3, .int f]) (h1 := h) rfl ?_
    refine c_isBelow (v := f) (n := 3) rfl (fun c3a c3b => ?_) (fun c3 => ?_)
    · skip
      rw [z3] at c3b
      have hokF : okF f := ⟨c3a, by omega⟩
      refine RP.step (i1 := 8) (L1 := [some (.ref 0), some (.int s), some (.int f), some (.int n)]) (st1 := []) (h1 := h) rfl ?_
      refine RP.step (i1 := 9) (L1 := [some (.ref 0), some (.int s), some (.int f), some (.int n)]) (st1 := [.int n]) (h1 := h) rfl ?_
      refine RP.step (i1 := 10) (L1 := [some (.ref 0), some (.int s), some (.int f), some (.int n)]) (st1 := [.int 60, .int n]) (h1 := h) rfl ?_
      refine RP.icmp (x := n) (y := 60) rfl (fun c5 => ?_) (fun c5 => ?_)
      · skip
        have c5 := m_le_iff.mp c5
        refine RP.step (i1 := 14) (L1 := [some (.ref 0), some (.int s), some (.int f), some (.int n)]) (st1 := [.int n]) (h1 := h) rfl ?_
        refine RP.ifc (x := n) rfl (fun c6 => ?_) (fun c6 => ?_)
        · skip
          have c6 := m_ge_iff.mp c6
          refine RP.step (i1 := 20) (L1 := [some (.ref 0), some (.int s), some (.int f), some (.int n)]) (st1 := [.ref 0]) (h1 := h) rfl ?_
          refine RP.getR (i := 20) rfl gh rfl ?_
          refine RP.step (i1 := 22) (L1 := [some (.ref 0), some (.int s), some (.int f), some (.int n)]) (st1 := [.int s, .ref 9]) (h1 := h) rfl ?_
          refine RP.aald (i := 22) rfl gh rfl rfl S1 S2 ?_
          show RP m_X6_sheet 23 [some (.ref 0), some (.int s), some (.int f), some (.int n)] [.ref (115 + 2 * s.toNatClampNeg)] h _
          refine RP.step (i1 := 24) (L1 := [some (.ref 0), some (.int s), some (.int f), some (.int n)]) (st1 := [.int f, .ref (115 + 2 * s.toNatClampNeg)]) (h1 := h) rfl ?_
          refine RP.step (i1 := 25) (L1 := [some (.ref 0), some (.int s), some (.int f), some (.int n)]) (st1 := [.int n, .int f, .ref (115 + 2 * s.toNatClampNeg)]) (h1 := h) rfl ?_
          obtain ⟨vs, hx⟩ := ob_sp gh Sf5
          refine RP.call (M1 := m_X3_begin) (cv_step rfl rfl hx rfl rfl) rfl rfl (x_begin s.toNatClampNeg S3 f n (by omega) (by omega) h gh) (fun r h5 w => ?_)
          obtain ⟨rfl, g5, f5, e5⟩ := w
          show RP m_X6_sheet 26 [some (.ref 0), some (.int s), some (.int f), some (.int n)] [] h5 _
          refine RP.step (i1 := 27) (L1 := [some (.ref 0), some (.int s), some (.int f), some (.int n)]) (st1 := [.int n]) (h1 := h5) rfl ?_
          exact RP.ret rfl ⟨g5, f5, Or.inr (Or.inr ⟨⟨hok, hokF, by omega⟩, by omega, rfl, e5⟩)⟩
        · skip
          have c6 := m_ff m_ge_iff c6
          refine RP.step (i1 := 16) (L1 := [some (.ref 0), some (.int s), some (.int f), some (.int n)]) (st1 := [.ref 0]) (h1 := h) rfl ?_
          refine RP.step (i1 := 17) (L1 := [some (.ref 0), some (.int s), some (.int f), some (.int n)]) (st1 := [.int 5, .ref 0]) (h1 := h) rfl ?_
          refine c_find (v := 5) rfl rfl rfl rfl rfl gh (fun g9 t9 => ?_)
          exact RP.ret rfl ⟨g9, t9, Or.inr (Or.inl ⟨⟨hok, hokF, by omega⟩, by omega, rfl, smX_n0⟩)⟩
      · skip
        have c5 := m_ff m_le_iff c5
        refine RP.step (i1 := 12) (L1 := [some (.ref 0), some (.int s), some (.int f), some (.int n)]) (st1 := [.int (-2)]) (h1 := h) rfl ?_
        exact RP.ret rfl ⟨gh, fH.rf _ _, Or.inl ⟨fun w => absurd w.2.2 (by omega), rfl, smX.rf _⟩⟩
    · skip
      rw [z3] at c3
      refine RP.step (i1 := 11) (L1 := [some (.ref 0), some (.int s), some (.int f), some (.int n)]) (st1 := []) (h1 := h) rfl ?_
      refine RP.step (i1 := 12) (L1 := [some (.ref 0), some (.int s), some (.int f), some (.int n)]) (st1 := [.int (-2)]) (h1 := h) rfl ?_
      exact RP.ret rfl ⟨gh, fH.rf _ _, Or.inl ⟨fun w => c3 ⟨w.2.1.1, by have := w.2.1.2; omega⟩, rfl, smX.rf _⟩⟩
  · skip
    rw [z4] at c1
    refine RP.step (i1 := 11) (L1 := [some (.ref 0), some (.int s), some (.int f), some (.int n)]) (st1 := []) (h1 := h) rfl ?_
    refine RP.step (i1 := 12) (L1 := [some (.ref 0), some (.int s), some (.int f), some (.int n)]) (st1 := [.int (-2)]) (h1 := h) rfl ?_
    exact RP.ret rfl ⟨gh, fH.rf _ _, Or.inl ⟨fun w => c1 ⟨w.1.1, by have := w.1.2; omega⟩, rfl, smX.rf _⟩⟩
theorem y_sheet_l (s f n : Int32) (a1 : 0 ≤ s.toInt) (a2 : s.toInt ≤ 3) : ∀ (N : Nat) (k : Int32) (h : MH), gH HMs h → 0 ≤ k.toInt → k.toInt ≤ 60 → 60 - k.toInt < N → RP m_X7_sheet 36 [some (.ref 123), some (.int s), some (.int f), some (.int n), some (.int k)] [] h (fun r h1 => gH HMs h1 ∧ fH HMs h h1 ∧ r = some (.int n) ∧ smY h h1) := by
  have z1 : (1 : Int32).toInt = 1 := by decide
  have z60 : (60 : Int32).toInt = 60 := by decide
  intro N
  induction N with
  | zero => intro k h _ _ _ q; exact absurd q (by omega)
  | succ N ih =>
    intro k h gh k1 k2 hN
    have e1 : (60 * s).toInt = 60 * s.toInt := i32_mulc z60 (by omega) (by omega)
    refine RP.step rfl ?_
    refine RP.step rfl ?_
    refine RP.icmp (x := k) (y := 60) rfl (fun c => RP.step rfl (RP.ret rfl ⟨gh, fH.rf _ _, rfl, smY.rf _⟩)) (fun c => ?_)
    have c1 := m_ff m_ge_iff c
    have e3 : (60 * s + k).toInt = 60 * s.toInt + k.toInt := (i32_add (by omega) (by omega)).trans (by omega)
    have e4 : (k + 1).toInt = k.toInt + 1 := (i32_add (by omega) (by omega)).trans (by omega)
    refine RP.step rfl ?_
    refine RP.getR rfl gh rfl ?_
    refine RP.step rfl ?_
    refine RP.step rfl ?_
    refine RP.step rfl ?_
    refine RP.step rfl ?_
    refine RP.step rfl ?_
    refine RP.step rfl ?_
    refine RP.ast (j := 60 * s + k) (x := 0) rfl gh (show HMs[151]? = some (.inl (0, 240, -2147483648, 2147483647, false)) from rfl) (by omega) (by show _ < ((240 : Nat) : Int); omega) ?_
    obtain ⟨g1, f1⟩ := setA_s (j := (60 * s + k).toNatClampNeg) (x := 0) gh (show HMs[151]? = some (.inl (0, 240, -2147483648, 2147483647, false)) from rfl) (i32_ge _) (i32_le _)
    refine RP.step (L1 := [some (.ref 123), some (.int s), some (.int f), some (.int n), some (.int (k + 1))]) rfl ?_
    refine RP.step rfl ?_
    refine (ih (k + 1) _ g1 (by omega) (by omega) (by omega)).mono (fun r h2 q => ⟨q.1, fH.tr g1 f1 q.2.1, q.2.2.1, ?_⟩)
    exact smY.tr ⟨setA_ne (by decide), setA_ne (by decide), setA_ne (by decide)⟩ q.2.2.2
theorem y_sheetE (s f n : Int32) (h : MH) (gh : gH HMs h) : RP m_X7_sheet 0 (m_ent 5 [.ref 123, .int s, .int f, .int n]) [] h (ShY s f n h) := by
  have z0 : (0 : Int32).toInt = 0 := by decide
  have z1 : (1 : Int32).toInt = 1 := by decide
  have z2 : (2 : Int32).toInt = 2 := by decide
  have z3 : (3 : Int32).toInt = 3 := by decide
  have z4 : (4 : Int32).toInt = 4 := by decide
  have z60 : (60 : Int32).toInt = 60 := by decide
  have s148 : HMs[148]? = some (.inl (1, 4, 0, 1, false)) := rfl
  have s149 : HMs[149]? = some (.inl (0, 4, -2147483648, 2147483647, false)) := rfl
  have s150 : HMs[150]? = some (.inl (0, 4, 0, 60, false)) := rfl
  have s151 : HMs[151]? = some (.inl (0, 240, -2147483648, 2147483647, false)) := rfl
  refine RP.step (i1 := 1) (L1 := [some (.ref 123), some (.int s), some (.int f), some (.int n), none]) (st1 := [.int s]) (h1 := h) rfl ?_
  refine c_isSheet (v := s) rfl (fun c1a c1b => ?_) (fun c1 => ?_)
  · skip
    have hok : okS s := ⟨c1a, c1b⟩
    have hn := nat_cl c1a
    refine RP.step (i1 := 3) (L1 := [some (.ref 123), some (.int s), some (.int f), some (.int n), none]) (st1 := []) (h1 := h) rfl ?_
    refine RP.step (i1 := 4) (L1 := [some (.ref 123), some (.int s), some (.int f), some (.int n), none]) (st1 := [.int f]) (h1 := h) rfl ?_
    refine RP.step (i1 := 5) (L1 := [some (.ref 123), some (.int s), some (.int f), some (.int n), none]) (st1 := [.int 0, .int f]) (h1 := h) rfl ?_
    refine RP.step (i1 := 6) (L1 := [some (.ref 123), some (.int s), some (.int f), some (.int n), none]) (st1 := [.int 2, .int 0, .int f]) (h1 := h) rfl ?_
    refine c_in (v := f) (a := 0) (b := 2) rfl (fun c3a c3b => ?_) (fun c3 => ?_)
    · skip
      have hokF : okF f := ⟨by omega, by omega⟩
      refine RP.step (i1 := 8) (L1 := [some (.ref 123), some (.int s), some (.int f), some (.int n), none]) (st1 := []) (h1 := h) rfl ?_
      refine RP.step (i1 := 9) (L1 := [some (.ref 123), some (.int s), some (.int f), some (.int n), none]) (st1 := [.int n]) (h1 := h) rfl ?_
      refine RP.step (i1 := 10) (L1 := [some (.ref 123), some (.int s), some (.int f), some (.int n), none]) (st1 := [.int 60, .int n]) (h1 := h) rfl ?_
      refine RP.icmp (x := n) (y := 60) rfl (fun c5 => ?_) (fun c5 => ?_)
      · skip
        have c5 := m_le_iff.mp c5
        refine RP.step (i1 := 14) (L1 := [some (.ref 123), some (.int s), some (.int f), some (.int n), none]) (st1 := [.int n]) (h1 := h) rfl ?_
        refine RP.ifc (x := n) rfl (fun c6 => ?_) (fun c6 => ?_)
        · skip
          have c6 := m_ge_iff.mp c6
          refine RP.step rfl ?_
          refine RP.getR rfl gh rfl ?_
          refine RP.step rfl ?_
          refine RP.step rfl ?_
          refine RP.bst (j := s) (x := 1) rfl gh s148 (by decide) c1a (by show _ < ((4 : Nat) : Int); omega) ?_
          obtain ⟨g5, f5⟩ := setA_s (j := s.toNatClampNeg) (x := 1) gh s148 (by decide) (by decide)
          refine RP.step rfl ?_
          refine RP.getR rfl g5 rfl ?_
          refine RP.step rfl ?_
          refine RP.step rfl ?_
          refine RP.ast (j := s) (x := f) rfl g5 s149 c1a (by show _ < ((4 : Nat) : Int); omega) ?_
          obtain ⟨g6, f6⟩ := setA_s (j := s.toNatClampNeg) (x := f) g5 s149 (i32_ge _) (i32_le _)
          refine RP.step rfl ?_
          refine RP.getR rfl g6 rfl ?_
          refine RP.step rfl ?_
          refine RP.step rfl ?_
          refine RP.ast (j := s) (x := n) rfl g6 s150 c1a (by show _ < ((4 : Nat) : Int); omega) ?_
          obtain ⟨g7, f7⟩ := setA_s (j := s.toNatClampNeg) (x := n) g6 s150 (by omega) (by omega)
          refine RP.step rfl ?_
          refine RP.step (L1 := [some (.ref 123), some (.int s), some (.int f), some (.int n), some (.int 0)]) rfl ?_
          refine (y_sheet_l s f n c1a c1b 61 0 _ g7 (by decide) (by decide) (by decide)).mono (fun r h2 q => ?_)
          refine ⟨q.1, fH.tr g7 (fH.tr g6 (fH.tr g5 f5 f6) f7) q.2.1, Or.inr (Or.inr ⟨⟨hok, hokF, by omega⟩, by omega, q.2.2.1, fun p => ?_⟩)⟩
          rw [aI_cong q.2.2.2.1, aI_cong q.2.2.2.2.1, aI_cong q.2.2.2.2.2]
          by_cases e : p = s.toNatClampNeg
          · subst e
            rw [if_pos rfl, if_pos rfl, if_pos rfl]
            exact ⟨(aI_na (by decide)).trans ((aI_na (by decide)).trans (aI_eq gh s148 (by omega))), (aI_na (by decide)).trans (aI_eq g5 s149 (by omega)), aI_eq g6 s150 (by omega)⟩
          · rw [if_neg e, if_neg e, if_neg e]
            exact ⟨(aI_na (by decide)).trans ((aI_na (by decide)).trans (aI_nj e)), (aI_na (by decide)).trans ((aI_nj e).trans (aI_na (by decide))), (aI_nj e).trans ((aI_na (by decide)).trans (aI_na (by decide)))⟩
        · skip
          have c6 := m_ff m_ge_iff c6
          refine RP.step (i1 := 16) (L1 := [some (.ref 123), some (.int s), some (.int f), some (.int n), none]) (st1 := [.ref 123]) (h1 := h) rfl ?_
          refine RP.step (i1 := 17) (L1 := [some (.ref 123), some (.int s), some (.int f), some (.int n), none]) (st1 := [.int 5, .ref 123]) (h1 := h) rfl ?_
          refine c_meets (v := 5) rfl rfl rfl rfl rfl gh (fun g9 t9 => ?_)
          exact RP.ret rfl ⟨g9, t9, Or.inr (Or.inl ⟨⟨hok, hokF, by omega⟩, by omega, rfl, smY_F⟩)⟩
      · skip
        have c5 := m_ff m_le_iff c5
        refine RP.step (i1 := 12) (L1 := [some (.ref 123), some (.int s), some (.int f), some (.int n), none]) (st1 := [.int (-2)]) (h1 := h) rfl ?_
        exact RP.ret rfl ⟨gh, fH.rf _ _, Or.inl ⟨fun w => absurd w.2.2 (by omega), rfl, smY.rf _⟩⟩
    · skip
      refine RP.step (i1 := 11) (L1 := [some (.ref 123), some (.int s), some (.int f), some (.int n), none]) (st1 := []) (h1 := h) rfl ?_
      refine RP.step (i1 := 12) (L1 := [some (.ref 123), some (.int s), some (.int f), some (.int n), none]) (st1 := [.int (-2)]) (h1 := h) rfl ?_
      exact RP.ret rfl ⟨gh, fH.rf _ _, Or.inl ⟨fun w => c3 ⟨by have := w.2.1.1; omega, by have := w.2.1.2; omega⟩, rfl, smY.rf _⟩⟩
  · skip
    refine RP.step (i1 := 11) (L1 := [some (.ref 123), some (.int s), some (.int f), some (.int n), none]) (st1 := []) (h1 := h) rfl ?_
    refine RP.step (i1 := 12) (L1 := [some (.ref 123), some (.int s), some (.int f), some (.int n), none]) (st1 := [.int (-2)]) (h1 := h) rfl ?_
    exact RP.ret rfl ⟨gh, fH.rf _ _, Or.inl ⟨fun w => c1 w.1, rfl, smY.rf _⟩⟩
