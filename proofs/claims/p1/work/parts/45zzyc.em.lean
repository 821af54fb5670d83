/-! spare and chance of the class leave the model's cells as they are -/
def EM (bb s : SG) : Prop := eqR rgM bb s
def EI (bb : SG) (r : Option Value) (s1 : SG) : Prop := (∃ x, r = some (.int x)) ∧ EM bb s1
def EL (bb : SG) (r : Option Value) (s1 : SG) : Prop := (∃ x, r = some (.long x)) ∧ EM bb s1
theorem eqR.tr {R : Nat → Bool} {s t u : SG} (f : eqR R s t) (g : eqR R t u) : eqR R s u := fun a j h => (g a j h).trans (f a j h)
theorem eqR.sy {R : Nat → Bool} {s t : SG} (f : eqR R s t) : eqR R t s := fun a j h => (f a j h).symm
theorem inW_lt {W : LW} (h : W.all (fun w => Nat.blt w.2.1 123) = true) {a j : Nat} (q : inW W a j = true) : a < 123 := by
  unfold inW at q
  obtain ⟨w, hw, q⟩ := List.any_eq_true.mp q
  obtain ⟨-, q⟩ := b_and q
  obtain ⟨q, -⟩ := b_and q
  have k := List.all_eq_true.mp h w hw
  have q : a ≤ w.2.1 := Nat.le_of_ble_eq_true q
  have k : w.2.1 < 123 := by rw [Nat.blt_eq] at k; exact k
  omega
theorem Fr.mo {W : LW} {s s1 : SG} (f : Fr W s s1) (h : W.all (fun w => Nat.blt w.2.1 123) = true) : eqR rgM s s1 := fun a j ha => f a j (by
  cases q : inW W a j with
  | false => rfl
  | true =>
    have k := inW_lt h q
    have := rgM_iff.mp ha
    omega)
section EMS
variable {n : Nat} {M M1 : MM} {i y : Nat} {L : ML} {st : List Value} {s bb : SG} {P : Option Value → SG → Prop}
theorem UPB.eI {as rest : List Value} (hs : ustep M i L st s = some (.inr (.inl (y, as, rest)))) (hy : m_tab[y]? = some M1) (kc : UP M1 0 (m_ent (mx M1) as) [] s (EI bb)) (k : ∀ x s1, EM bb s1 → UPB n M (i + 1) L (.int x :: rest) s1 P) : UPB n M i L st s P := UPB.call hs hy kc (fun r s1 q => by obtain ⟨⟨x, rfl⟩, q⟩ := q; exact k x s1 q)
theorem UPB.eL {as rest : List Value} (hs : ustep M i L st s = some (.inr (.inl (y, as, rest)))) (hy : m_tab[y]? = some M1) (kc : UP M1 0 (m_ent (mx M1) as) [] s (EL bb)) (k : ∀ x s1, EM bb s1 → UPB n M (i + 1) L (.long x :: rest) s1 P) : UPB n M i L st s P := UPB.call hs hy kc (fun r s1 q => by obtain ⟨⟨x, rfl⟩, q⟩ := q; exact k x s1 q)
theorem EI_b {T : Int32 × SG} (k : UP M i L st s (Qb T)) (h : EM bb T.2) : UP M i L st s (EI bb) := k.mono (fun r s1 q => ⟨⟨_, q.1⟩, by rw [q.2]; exact h⟩)
theorem EI_i {T : Int32} (k : UP M i L st s (Qi s T)) (h : EM bb s) : UP M i L st s (EI bb) := k.mono (fun r s1 q => ⟨⟨_, q.1⟩, by rw [q.2]; exact h⟩)
theorem EL_i {T : Int64} (k : UP M i L st s (Qj s T)) (h : EM bb s) : UP M i L st s (EL bb) := k.mono (fun r s1 q => ⟨⟨_, q.1⟩, by rw [q.2]; exact h⟩)
end EMS
theorem EI_isBelow {bb s : SG} (h : EM bb s) (v : Int32) (n : Int32) : UP m_X6_isBelow 0 (m_ent 2 [.int v, .int n]) [] s (EI bb) := EI_i (ux_isBelow s v n) h
theorem EI_hasBit {bb s : SG} (h : EM bb s) (b : Int32) (k : Int32) : UP m_X6_hasBit 0 (m_ent 2 [.int b, .int k]) [] s (EI bb) := EI_i (ux_hasBit s b k) h
theorem EI_ithBit {bb s : SG} (h : EM bb s) (b : Int32) (i : Int32) : UP m_X6_ithBit 0 (m_ent 4 [.int b, .int i]) [] s (EI bb) := EI_i (ux_ithBit s b i) h
theorem EI_bitCount {bb s : SG} (h : EM bb s) (b : Int32) : UP m_J6_bitCount_0f7a4 0 (m_ent 1 [.int b]) [] s (EI bb) := EI_i (ux_bitCount s b) h
theorem EL_weightOf {bb s : SG} (h : EM bb s) (a : Int32) (b : Int32) : UP m_X6_weightOf 0 (m_ent 6 [.ref 0, .int a, .int b]) [] s (EL bb) := EL_i (ux_weightOf s a b) h
theorem EI_faw {bb s : SG} (h : EM bb s) (a : Int32) : UP m_X6_firstAgroundWith 0 (m_ent 2 [.ref 0, .int a]) [] s (EI bb) := EI_b (ux_firstAgroundWith s a) (h.tr ((fr_firstAgroundWith s a).mo rfl))
theorem EI_iab {bb s : SG} (h : EM bb s) (a : Int32) (b : Int32) : UP m_X6_isAgroundBy 0 (m_ent 4 [.ref 0, .int a, .int b]) [] s (EI bb) := EI_b (ux_isAgroundBy s a b) (h.tr ((fr_isAgroundBy s a b).mo rfl))
theorem EI_spared_hd {bb : SG} : ∀ n, (∀ (v1 : Int32) (v2 : Int32) (u3 : Option Value) (u4 : Option Value) (s : SG), EM bb s → UPB n m_X6_sparedEvents 17 [some (.ref 0), some (.int v1), some (.int v2), u3, u4] [] s (EI bb)) ∧ (∀ (v1 : Int32) (v2 : Int32) (u3 : Option Value) (u4 : Option Value) (s : SG), EM bb s → UPB n m_X6_sparedEvents 41 [some (.ref 0), some (.int v1), some (.int v2), u3, u4] [] s (EI bb)) ∧ (∀ (v1 : Int32) (v2 : Int32) (v3 : Int32) (u4 : Option Value) (s : SG), EM bb s → UPB n m_X6_sparedEvents 50 [some (.ref 0), some (.int v1), some (.int v2), some (.int v3), u4] [] s (EI bb)) := by
  intro n
  induction n with
  | zero => exact ⟨fun _ _ _ _ _ _ => UPB.zero, fun _ _ _ _ _ _ => UPB.zero, fun _ _ _ _ _ _ => UPB.zero⟩
  | succ n ih =>
    obtain ⟨IH17, IH41, IH50⟩ := ih
    refine ⟨?_, ?_, ?_⟩
    · intro v1 v2 u3 u4 s h
      refine UPB.hd 3 (i1 := 21) (L1 := [some (.ref 0), some (.int v1), some (.int v2), u3, u4]) (st1 := [.int (s 2 3), .int v2]) (s1 := s) rfl ?_
      refine UPB.ic rfl ?_ ?_
      · skip
        refine UPB.stp 2 (i1 := 41) (L1 := [some (.ref 0), some (.int v1), some (.int 0), u3, u4]) (st1 := []) (s1 := s) rfl ?_
        exact IH41 v1 0 u3 u4 s h
      · skip
        refine UPB.stp 8 (i1 := 30) (L1 := [some (.ref 0), some (.int v1), some (.int v2), u3, u4]) (st1 := [.int (v1 &&& ((1 <<< (v2 &&& 31)) ^^^ (-1 : Int32))), .ref 0]) (s1 := s) rfl ?_
        refine UPB.eI (M1 := m_X6_firstAgroundWith) (as := [.ref 0, .int (v1 &&& ((1 <<< (v2 &&& 31)) ^^^ (-1 : Int32)))]) (rest := []) rfl rfl (EI_faw h (v1 &&& ((1 <<< (v2 &&& 31)) ^^^ (-1 : Int32)))) (fun x4 s5 h6 => ?_)
        refine UPB.stp 1 (i1 := 32) (L1 := [some (.ref 0), some (.int v1), some (.int v2), u3, u4]) (st1 := [.int (-1), .int x4]) (s1 := s5) rfl ?_
        refine UPB.ic rfl ?_ ?_
        · skip
          refine UPB.stp 2 (i1 := 17) (L1 := [some (.ref 0), some (.int v1), some (.int (v2 + 1)), u3, u4]) (st1 := []) (s1 := s5) rfl ?_
          exact IH17 v1 (v2 + 1) u3 u4 s5 h6
        · skip
          refine UPB.stp 3 (i1 := 36) (L1 := [some (.ref 0), some (.int v1), some (.int v2), u3, u4]) (st1 := [.int (1 <<< (v2 &&& 31))]) (s1 := s5) rfl ?_
          exact UPB.ret (r := some (.int (1 <<< (v2 &&& 31)))) rfl ⟨⟨_, rfl⟩, h6⟩
    · intro v1 v2 u3 u4 s h
      refine UPB.hd 3 (i1 := 45) (L1 := [some (.ref 0), some (.int v1), some (.int v2), u3, u4]) (st1 := [.int (s 2 3), .int v2]) (s1 := s) rfl ?_
      refine UPB.ic rfl ?_ ?_
      · skip
        refine UPB.stp 1 (i1 := 79) (L1 := [some (.ref 0), some (.int v1), some (.int v2), u3, u4]) (st1 := [.int (-1)]) (s1 := s) rfl ?_
        exact UPB.ret (r := some (.int (-1))) rfl ⟨⟨_, rfl⟩, h⟩
      · skip
        refine UPB.stp 4 (i1 := 50) (L1 := [some (.ref 0), some (.int v1), some (.int v2), some (.int (v2 + 1)), u4]) (st1 := []) (s1 := s) rfl ?_
        exact IH50 v1 v2 (v2 + 1) u4 s h
    · intro v1 v2 v3 u4 s h
      refine UPB.hd 3 (i1 := 54) (L1 := [some (.ref 0), some (.int v1), some (.int v2), some (.int v3), u4]) (st1 := [.int (s 2 3), .int v3]) (s1 := s) rfl ?_
      refine UPB.ic rfl ?_ ?_
      · skip
        refine UPB.stp 2 (i1 := 41) (L1 := [some (.ref 0), some (.int v1), some (.int (v2 + 1)), some (.int v3), u4]) (st1 := []) (s1 := s) rfl ?_
        exact IH41 v1 (v2 + 1) (some (.int v3)) u4 s h
      · skip
        refine UPB.stp 14 (i1 := 69) (L1 := [some (.ref 0), some (.int v1), some (.int v2), some (.int v3), some (.int ((1 <<< (v2 &&& 31)) ||| (1 <<< (v3 &&& 31))))]) (st1 := [.int (v1 &&& (((1 <<< (v2 &&& 31)) ||| (1 <<< (v3 &&& 31))) ^^^ (-1 : Int32))), .ref 0]) (s1 := s) rfl ?_
        refine UPB.eI (M1 := m_X6_firstAgroundWith) (as := [.ref 0, .int (v1 &&& (((1 <<< (v2 &&& 31)) ||| (1 <<< (v3 &&& 31))) ^^^ (-1 : Int32)))]) (rest := []) rfl rfl (EI_faw h (v1 &&& (((1 <<< (v2 &&& 31)) ||| (1 <<< (v3 &&& 31))) ^^^ (-1 : Int32)))) (fun x7 s8 h9 => ?_)
        refine UPB.stp 1 (i1 := 71) (L1 := [some (.ref 0), some (.int v1), some (.int v2), some (.int v3), some (.int ((1 <<< (v2 &&& 31)) ||| (1 <<< (v3 &&& 31))))]) (st1 := [.int (-1), .int x7]) (s1 := s8) rfl ?_
        refine UPB.ic rfl ?_ ?_
        · skip
          refine UPB.stp 2 (i1 := 50) (L1 := [some (.ref 0), some (.int v1), some (.int v2), some (.int (v3 + 1)), some (.int ((1 <<< (v2 &&& 31)) ||| (1 <<< (v3 &&& 31))))]) (st1 := []) (s1 := s8) rfl ?_
          exact IH50 v1 v2 (v3 + 1) (some (.int ((1 <<< (v2 &&& 31)) ||| (1 <<< (v3 &&& 31))))) s8 h9
        · skip
          refine UPB.stp 1 (i1 := 73) (L1 := [some (.ref 0), some (.int v1), some (.int v2), some (.int v3), some (.int ((1 <<< (v2 &&& 31)) ||| (1 <<< (v3 &&& 31))))]) (st1 := [.int ((1 <<< (v2 &&& 31)) ||| (1 <<< (v3 &&& 31)))]) (s1 := s8) rfl ?_
          exact UPB.ret (r := some (.int ((1 <<< (v2 &&& 31)) ||| (1 <<< (v3 &&& 31))))) rfl ⟨⟨_, rfl⟩, h9⟩
theorem EI_spared {bb s : SG} (h : EM bb s)  : UP m_X6_sparedEvents 0 (m_ent 5 [.ref 0]) [] s (EI bb) := by
  refine UP.of_b (fun n => ?_)
  obtain ⟨IH17, IH41, IH50⟩ := EI_spared_hd (bb := bb) n
  refine UPB.stp 10 (i1 := 10) (L1 := [some (.ref 0), some (.int ((1 <<< ((s 2 3) &&& 31)) - 1)), none, none, none]) (st1 := [.int ((1 <<< ((s 2 3) &&& 31)) - 1), .ref 0]) (s1 := s) rfl ?_
  refine UPB.eI (M1 := m_X6_firstAgroundWith) (as := [.ref 0, .int ((1 <<< ((s 2 3) &&& 31)) - 1)]) (rest := []) rfl rfl (EI_faw h ((1 <<< ((s 2 3) &&& 31)) - 1)) (fun x1 s2 h3 => ?_)
  refine UPB.stp 1 (i1 := 12) (L1 := [some (.ref 0), some (.int ((1 <<< ((s 2 3) &&& 31)) - 1)), none, none, none]) (st1 := [.int (-1), .int x1]) (s1 := s2) rfl ?_
  refine UPB.ic rfl ?_ ?_
  · skip
    refine UPB.stp 2 (i1 := 17) (L1 := [some (.ref 0), some (.int ((1 <<< ((s 2 3) &&& 31)) - 1)), some (.int 0), none, none]) (st1 := []) (s1 := s2) rfl ?_
    exact IH17 ((1 <<< ((s 2 3) &&& 31)) - 1) 0 none none s2 h3
  · skip
    refine UPB.stp 1 (i1 := 14) (L1 := [some (.ref 0), some (.int ((1 <<< ((s 2 3) &&& 31)) - 1)), none, none, none]) (st1 := [.int 0]) (s1 := s2) rfl ?_
    exact UPB.ret (r := some (.int 0)) rfl ⟨⟨_, rfl⟩, h3⟩
theorem EI_spare {bb s : SG} (h : EM bb s) (a : Int32) : UP m_X6_spare 0 (m_ent 3 [.ref 0, .int a]) [] s (EI bb) := by
  refine UP.of_b (fun n => ?_)
  refine UPB.stp 2 (i1 := 2) (L1 := [some (.ref 0), some (.int a), none]) (st1 := [.int (-1), .int a]) (s1 := s) rfl ?_
  refine UPB.ic rfl ?_ ?_
  · skip
    refine UPB.stp 1 (i1 := 7) (L1 := [some (.ref 0), some (.int a), none]) (st1 := [.int (-2)]) (s1 := s) rfl ?_
    exact UPB.ret (r := some (.int (-2))) rfl ⟨⟨_, rfl⟩, h⟩
  · skip
    refine UPB.stp 2 (i1 := 5) (L1 := [some (.ref 0), some (.int a), none]) (st1 := [.int 2, .int a]) (s1 := s) rfl ?_
    refine UPB.ic rfl ?_ ?_
    · skip
      refine UPB.stp 1 (i1 := 9) (L1 := [some (.ref 0), some (.int a), none]) (st1 := [.ref 0]) (s1 := s) rfl ?_
      refine UPB.eI (M1 := m_X6_sparedEvents) (as := [.ref 0]) (rest := []) rfl rfl (EI_spared h) (fun x1 s2 h3 => ?_)
      refine UPB.stp 3 (i1 := 13) (L1 := [some (.ref 0), some (.int a), some (.int x1)]) (st1 := [.int (-1), .int x1]) (s1 := s2) rfl ?_
      refine UPB.ic rfl ?_ ?_
      · skip
        refine UPB.stp 2 (i1 := 18) (L1 := [some (.ref 0), some (.int a), some (.int x1)]) (st1 := [.int (-1), .int a]) (s1 := s2) rfl ?_
        refine UPB.ic rfl ?_ ?_
        · skip
          refine UPB.stp 2 (i1 := 24) (L1 := [some (.ref 0), some (.int a), some (.int x1)]) (st1 := [.int a, .int x1]) (s1 := s2) rfl ?_
          refine UPB.eI (M1 := m_X6_ithBit) (as := [.int x1, .int a]) (rest := []) rfl rfl (EI_ithBit h3 x1 a) (fun x4 s5 h6 => ?_)
          exact UPB.ret (r := some (.int x4)) rfl ⟨⟨_, rfl⟩, h6⟩
        · skip
          refine UPB.stp 1 (i1 := 20) (L1 := [some (.ref 0), some (.int a), some (.int x1)]) (st1 := [.int x1]) (s1 := s2) rfl ?_
          refine UPB.eI (M1 := m_J6_bitCount_0f7a4) (as := [.int x1]) (rest := []) rfl rfl (EI_bitCount h3 x1) (fun x7 s8 h9 => ?_)
          refine UPB.stp 1 (i1 := 25) (L1 := [some (.ref 0), some (.int a), some (.int x1)]) (st1 := [.int x7]) (s1 := s8) rfl ?_
          exact UPB.ret (r := some (.int x7)) rfl ⟨⟨_, rfl⟩, h9⟩
      · skip
        refine UPB.stp 1 (i1 := 15) (L1 := [some (.ref 0), some (.int a), some (.int x1)]) (st1 := [.int (-1)]) (s1 := s2) rfl ?_
        exact UPB.ret (r := some (.int (-1))) rfl ⟨⟨_, rfl⟩, h3⟩
    · skip
      refine UPB.stp 1 (i1 := 7) (L1 := [some (.ref 0), some (.int a), none]) (st1 := [.int (-2)]) (s1 := s) rfl ?_
      exact UPB.ret (r := some (.int (-2))) rfl ⟨⟨_, rfl⟩, h⟩
theorem EL_chance_hd {bb : SG} : ∀ n, (∀ (v1 : Int32) (v2 : Int32) (v3 : Int32) (v4 : Int64) (u5 : Option Value) (v6 : Int32) (u7 : Option Value) (u8 : Option Value) (s : SG), EM bb s → UPB n m_X6_chance 18 [some (.ref 0), some (.int v1), some (.int v2), some (.int v3), some (.long v4), u5, some (.int v6), u7, u8] [] s (EL bb)) ∧ (∀ (v1 : Int32) (v2 : Int32) (v3 : Int32) (v4 : Int64) (u5 : Option Value) (v6 : Int64) (u7 : Option Value) (v8 : Int32) (s : SG), EM bb s → UPB n m_X6_chance 55 [some (.ref 0), some (.int v1), some (.int v2), some (.int v3), some (.long v4), u5, some (.long v6), u7, some (.int v8)] [] s (EL bb)) := by
  intro n
  induction n with
  | zero => exact ⟨fun _ _ _ _ _ _ _ _ _ _ => UPB.zero, fun _ _ _ _ _ _ _ _ _ _ => UPB.zero⟩
  | succ n ih =>
    obtain ⟨IH18, IH55⟩ := ih
    refine ⟨?_, ?_⟩
    · intro v1 v2 v3 v4 u5 v6 u7 u8 s h
      refine UPB.hd 5 (i1 := 24) (L1 := [some (.ref 0), some (.int v1), some (.int v2), some (.int v3), some (.long v4), u5, some (.int v6), u7, u8]) (st1 := [.int (1 <<< ((s 2 3) &&& 31)), .int v6]) (s1 := s) rfl ?_
      refine UPB.ic rfl ?_ ?_
      · skip
        refine UPB.stp 10 (i1 := 55) (L1 := [some (.ref 0), some (.int v1), some (.int v2), some (.int v3), some (.long v4), u5, some (.long (1 <<< ((4 * (s 2 3)).toInt64 &&& 63))), u7, some (.int 0)]) (st1 := []) (s1 := s) rfl ?_
        exact IH55 v1 v2 v3 v4 u5 (1 <<< ((4 * (s 2 3)).toInt64 &&& 63)) u7 0 s h
      · skip
        refine UPB.stp 3 (i1 := 28) (L1 := [some (.ref 0), some (.int v1), some (.int v2), some (.int v3), some (.long v4), u5, some (.int v6), u7, u8]) (st1 := [.int v1, .int v6, .ref 0]) (s1 := s) rfl ?_
        refine UPB.eL (M1 := m_X6_weightOf) (as := [.ref 0, .int v6, .int v1]) (rest := []) rfl rfl (EL_weightOf h v6 v1) (fun x10 s11 h12 => ?_)
        refine UPB.stp 4 (i1 := 33) (L1 := [some (.ref 0), some (.int v1), some (.int v2), some (.int v3), some (.long v4), u5, some (.int v6), some (.long x10), u8]) (st1 := [.int (lg_cmp x10 0)]) (s1 := s11) rfl ?_
        refine UPB.ifc rfl ?_ ?_
        · skip
          refine UPB.stp 2 (i1 := 18) (L1 := [some (.ref 0), some (.int v1), some (.int v2), some (.int v3), some (.long v4), u5, some (.int (v6 + 1)), some (.long x10), u8]) (st1 := []) (s1 := s11) rfl ?_
          exact IH18 v1 v2 v3 v4 u5 (v6 + 1) (some (.long x10)) u8 s11 h12
        · skip
          refine UPB.stp 3 (i1 := 37) (L1 := [some (.ref 0), some (.int v1), some (.int v2), some (.int v3), some (.long v4), u5, some (.int v6), some (.long x10), u8]) (st1 := [.int v6, .int v2, .ref 0]) (s1 := s11) rfl ?_
          refine UPB.eI (M1 := m_X6_isAgroundBy) (as := [.ref 0, .int v2, .int v6]) (rest := []) rfl rfl (EI_iab h12 v2 v6) (fun x13 s14 h15 => ?_)
          refine UPB.ifc rfl ?_ ?_
          · skip
            refine UPB.stp 2 (i1 := 18) (L1 := [some (.ref 0), some (.int v1), some (.int v2), some (.int v3), some (.long v4), u5, some (.int (v6 + 1)), some (.long x10), u8]) (st1 := []) (s1 := s14) rfl ?_
            exact IH18 v1 v2 v3 v4 u5 (v6 + 1) (some (.long x10)) u8 s14 h15
          · skip
            refine UPB.stp 6 (i1 := 18) (L1 := [some (.ref 0), some (.int v1), some (.int v2), some (.int v3), some (.long (v4 + x10)), u5, some (.int (v6 + 1)), some (.long x10), u8]) (st1 := []) (s1 := s14) rfl ?_
            exact IH18 v1 v2 v3 (v4 + x10) u5 (v6 + 1) (some (.long x10)) u8 s14 h15
    · intro v1 v2 v3 v4 u5 v6 u7 v8 s h
      refine UPB.hd 1 (i1 := 57) (L1 := [some (.ref 0), some (.int v1), some (.int v2), some (.int v3), some (.long v4), u5, some (.long v6), u7, some (.int v8)]) (st1 := [.int 32, .int v8]) (s1 := s) rfl ?_
      refine UPB.ic rfl ?_ ?_
      · skip
        refine UPB.stp 1 (i1 := 79) (L1 := [some (.ref 0), some (.int v1), some (.int v2), some (.int v3), some (.long v4), u5, some (.long v6), u7, some (.int v8)]) (st1 := [.int v3]) (s1 := s) rfl ?_
        refine UPB.ifc rfl ?_ ?_
        · skip
          refine UPB.stp 1 (i1 := 83) (L1 := [some (.ref 0), some (.int v1), some (.int v2), some (.int v3), some (.long v4), u5, some (.long v6), u7, some (.int v8)]) (st1 := [.long v6]) (s1 := s) rfl ?_
          exact UPB.ret (r := some (.long v6)) rfl ⟨⟨_, rfl⟩, h⟩
        · skip
          refine UPB.stp 2 (i1 := 83) (L1 := [some (.ref 0), some (.int v1), some (.int v2), some (.int v3), some (.long v4), u5, some (.long v6), u7, some (.int v8)]) (st1 := [.long v4]) (s1 := s) rfl ?_
          exact UPB.ret (r := some (.long v4)) rfl ⟨⟨_, rfl⟩, h⟩
      · skip
        refine UPB.stp 3 (i1 := 61) (L1 := [some (.ref 0), some (.int v1), some (.int v2), some (.int v3), some (.long v4), u5, some (.long v6), u7, some (.int v8)]) (st1 := [.int (lg_cmp v6 1)]) (s1 := s) rfl ?_
        refine UPB.ifc rfl ?_ ?_
        · skip
          refine UPB.stp 1 (i1 := 79) (L1 := [some (.ref 0), some (.int v1), some (.int v2), some (.int v3), some (.long v4), u5, some (.long v6), u7, some (.int v8)]) (st1 := [.int v3]) (s1 := s) rfl ?_
          refine UPB.ifc rfl ?_ ?_
          · skip
            refine UPB.stp 1 (i1 := 83) (L1 := [some (.ref 0), some (.int v1), some (.int v2), some (.int v3), some (.long v4), u5, some (.long v6), u7, some (.int v8)]) (st1 := [.long v6]) (s1 := s) rfl ?_
            exact UPB.ret (r := some (.long v6)) rfl ⟨⟨_, rfl⟩, h⟩
          · skip
            refine UPB.stp 2 (i1 := 83) (L1 := [some (.ref 0), some (.int v1), some (.int v2), some (.int v3), some (.long v4), u5, some (.long v6), u7, some (.int v8)]) (st1 := [.long v4]) (s1 := s) rfl ?_
            exact UPB.ret (r := some (.long v4)) rfl ⟨⟨_, rfl⟩, h⟩
        · skip
          refine UPB.stp 5 (i1 := 67) (L1 := [some (.ref 0), some (.int v1), some (.int v2), some (.int v3), some (.long v4), u5, some (.long v6), u7, some (.int v8)]) (st1 := [.int (lg_cmp (v4 - v4 / 2 * 2) 0)]) (s1 := s) rfl ?_
          refine UPB.ifc rfl ?_ ?_
          · skip
            refine UPB.stp 1 (i1 := 79) (L1 := [some (.ref 0), some (.int v1), some (.int v2), some (.int v3), some (.long v4), u5, some (.long v6), u7, some (.int v8)]) (st1 := [.int v3]) (s1 := s) rfl ?_
            refine UPB.ifc rfl ?_ ?_
            · skip
              refine UPB.stp 1 (i1 := 83) (L1 := [some (.ref 0), some (.int v1), some (.int v2), some (.int v3), some (.long v4), u5, some (.long v6), u7, some (.int v8)]) (st1 := [.long v6]) (s1 := s) rfl ?_
              exact UPB.ret (r := some (.long v6)) rfl ⟨⟨_, rfl⟩, h⟩
            · skip
              refine UPB.stp 2 (i1 := 83) (L1 := [some (.ref 0), some (.int v1), some (.int v2), some (.int v3), some (.long v4), u5, some (.long v6), u7, some (.int v8)]) (st1 := [.long v4]) (s1 := s) rfl ?_
              exact UPB.ret (r := some (.long v4)) rfl ⟨⟨_, rfl⟩, h⟩
          · skip
            refine UPB.stp 10 (i1 := 55) (L1 := [some (.ref 0), some (.int v1), some (.int v2), some (.int v3), some (.long (v4 / 2)), u5, some (.long (v6 / 2)), u7, some (.int (v8 + 1))]) (st1 := []) (s1 := s) rfl ?_
            exact IH55 v1 v2 v3 (v4 / 2) u5 (v6 / 2) u7 (v8 + 1) s h
theorem EL_chance {bb s : SG} (h : EM bb s) (a : Int32) (b : Int32) (c : Int32) : UP m_X6_chance 0 (m_ent 9 [.ref 0, .int a, .int b, .int c]) [] s (EL bb) := by
  refine UP.of_b (fun n => ?_)
  obtain ⟨IH18, IH55⟩ := EL_chance_hd (bb := bb) n
  refine UPB.stp 2 (i1 := 2) (L1 := [some (.ref 0), some (.int a), some (.int b), some (.int c), none, none, none, none, none]) (st1 := [.int 17, .int a]) (s1 := s) rfl ?_
  refine UPB.eI (M1 := m_X6_isBelow) (as := [.int a, .int 17]) (rest := []) rfl rfl (EI_isBelow h a 17) (fun x1 s2 h3 => ?_)
  refine UPB.ifc rfl ?_ ?_
  · skip
    refine UPB.stp 1 (i1 := 13) (L1 := [some (.ref 0), some (.int a), some (.int b), some (.int c), none, none, none, none, none]) (st1 := [.long (-9223372036854775806)]) (s1 := s2) rfl ?_
    exact UPB.ret (r := some (.long (-9223372036854775806))) rfl ⟨⟨_, rfl⟩, h3⟩
  · skip
    refine UPB.stp 2 (i1 := 6) (L1 := [some (.ref 0), some (.int a), some (.int b), some (.int c), none, none, none, none, none]) (st1 := [.int 24, .int b]) (s1 := s2) rfl ?_
    refine UPB.eI (M1 := m_X6_isBelow) (as := [.int b, .int 24]) (rest := []) rfl rfl (EI_isBelow h3 b 24) (fun x4 s5 h6 => ?_)
    refine UPB.ifc rfl ?_ ?_
    · skip
      refine UPB.stp 1 (i1 := 13) (L1 := [some (.ref 0), some (.int a), some (.int b), some (.int c), none, none, none, none, none]) (st1 := [.long (-9223372036854775806)]) (s1 := s5) rfl ?_
      exact UPB.ret (r := some (.long (-9223372036854775806))) rfl ⟨⟨_, rfl⟩, h6⟩
    · skip
      refine UPB.stp 2 (i1 := 10) (L1 := [some (.ref 0), some (.int a), some (.int b), some (.int c), none, none, none, none, none]) (st1 := [.int 2, .int c]) (s1 := s5) rfl ?_
      refine UPB.eI (M1 := m_X6_isBelow) (as := [.int c, .int 2]) (rest := []) rfl rfl (EI_isBelow h6 c 2) (fun x7 s8 h9 => ?_)
      refine UPB.ifc rfl ?_ ?_
      · skip
        refine UPB.stp 4 (i1 := 18) (L1 := [some (.ref 0), some (.int a), some (.int b), some (.int c), some (.long 0), none, some (.int 0), none, none]) (st1 := []) (s1 := s8) rfl ?_
        exact IH18 a b c 0 none 0 none none s8 h9
      · skip
        refine UPB.stp 1 (i1 := 13) (L1 := [some (.ref 0), some (.int a), some (.int b), some (.int c), none, none, none, none, none]) (st1 := [.long (-9223372036854775806)]) (s1 := s8) rfl ?_
        exact UPB.ret (r := some (.long (-9223372036854775806))) rfl ⟨⟨_, rfl⟩, h9⟩
