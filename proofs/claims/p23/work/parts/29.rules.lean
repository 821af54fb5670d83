/-! RP: a run and what holds behind it; rules for what is walked by hand (exact values, with the ranges of an abstract heap) -/
def RP (M : MM) (i : Nat) (L : ML) (st : List Value) (h : MH) (P : Option Value → MH → Prop) : Prop := ∃ (r : Option Value) (h1 : MH), Rn false [] M i L st h (r, h1) ∧ P r h1
def fI (h : MH) (a k : Nat) : Int32 := match h[a]? with
  | some (.inr (_, vs)) => (match vs[k]? with | some (.int x) => x | _ => 0)
  | _ => 0
def aI (h : MH) (a j : Nat) : Int32 := match h[a]? with
  | some (.inl (_, .inl l)) => l.getD j 0
  | _ => 0
def setF (h : MH) (a k : Nat) (x : Int32) : MH := match h[a]? with
  | some (.inr (ci, vs)) => h.set a (.inr (ci, vs.set k (.int x)))
  | _ => h
def setA (h : MH) (a j : Nat) (x : Int32) : MH := match h[a]? with
  | some (.inl (t, .inl l)) => h.set a (.inl (t, .inl (l.set j x)))
  | _ => h
theorem setF_ne {h : MH} {a b k : Nat} {x : Int32} (e : a ≠ b) : (setF h a k x)[b]? = h[b]? := by
  unfold setF
  split
  · exact List.getElem?_set_ne e
  · rfl
theorem setA_ne {h : MH} {a b j : Nat} {x : Int32} (e : a ≠ b) : (setA h a j x)[b]? = h[b]? := by
  unfold setA
  split
  · exact List.getElem?_set_ne e
  · rfl
theorem fI_cong {h h1 : MH} {a k : Nat} (e : h1[a]? = h[a]?) : fI h1 a k = fI h a k := by unfold fI; rw [e]
theorem aI_cong {h h1 : MH} {a j : Nat} (e : h1[a]? = h[a]?) : aI h1 a j = aI h a j := by unfold aI; rw [e]
theorem gH.put {H : AH} {h : MH} {a : Nat} {c : AC} {x y : ME} (g : gH H h) (ha : H[a]? = some c) (hx : h[a]? = some x) (hc : gC c y) : gH H (h.set a y) := by
  have hl : a < h.length := (List.getElem?_eq_some_iff.mp hx).1
  refine ⟨by rw [List.length_set]; exact g.1, fun a2 c2 h2 => ?_⟩
  by_cases e : a = a2
  · subst e
    rw [ha] at h2
    cases h2
    exact ⟨y, List.getElem?_set_self hl, hc⟩
  · rw [List.getElem?_set_ne e]
    exact g.2 a2 c2 h2
/-- an int field: what it is -/
theorem fI_sp {H : AH} {h : MH} {ci k a : Nat} {lo hi : Int} {fz : Bool} (gh : gH H h) (hf : a_fd H ci k a = some (.inr (lo, hi, fz))) : ∃ vs, h[a]? = some (.inr (ci, vs)) ∧ vs[k]? = some (.int (fI h a k)) ∧ lo ≤ (fI h a k).toInt ∧ (fI h a k).toInt ≤ hi := by
  obtain ⟨fs, vs, v, -, -, hx, -, hv, ⟨x, rfl, x1, x2⟩, -⟩ := fd_sp gh hf
  have e : fI h a k = x := by unfold fI; rw [hx]; dsimp only; rw [hv]
  rw [e]
  exact ⟨vs, hx, hv, x1, x2⟩
theorem setF_sp {H : AH} {h : MH} {ci k a : Nat} {lo hi : Int} {fz : Bool} {x : Int32} (gh : gH H h) (hf : a_fd H ci k a = some (.inr (lo, hi, fz))) (x1 : lo ≤ x.toInt) (x2 : x.toInt ≤ hi) : gH H (setF h a k x) ∧ fI (setF h a k x) a k = x ∧ ∀ j, j ≠ k → fI (setF h a k x) a j = fI h a j := by
  obtain ⟨fs, vs, v, hc, hfk, hx, hl, hv, -, hb⟩ := fd_sp gh hf
  have hk : k < vs.length := (List.getElem?_eq_some_iff.mp hv).1
  have ha : a < h.length := (List.getElem?_eq_some_iff.mp hx).1
  have e : setF h a k x = h.set a (.inr (ci, vs.set k (.int x))) := by unfold setF; rw [hx]
  rw [e]
  refine ⟨gh.put hc hx ⟨_, rfl, by simp [hl], fun j f hj => ?_⟩, ?_, fun j hj => ?_⟩
  · by_cases e : k = j
    · subst e
      rw [hfk] at hj
      cases hj
      exact ⟨.int x, List.getElem?_set_self hk, x, rfl, x1, x2⟩
    · rw [List.getElem?_set_ne e]
      exact hb j f hj
  · unfold fI
    rw [List.getElem?_set_self ha]
    dsimp only
    rw [List.getElem?_set_self hk]
  · unfold fI
    rw [List.getElem?_set_self ha, hx]
    dsimp only
    rw [List.getElem?_set_ne (Ne.symm hj)]
theorem aI_sp {H : AH} {h : MH} {t n a j : Nat} {lo hi : Int} {fz : Bool} (gh : gH H h) (hf : H[a]? = some (.inl (t, n, lo, hi, fz))) (hj : j < n) : ∃ l, h[a]? = some (.inl (t, .inl l)) ∧ l.length = n ∧ l.getD j 0 = aI h a j ∧ lo ≤ (aI h a j).toInt ∧ (aI h a j).toInt ≤ hi := by
  obtain ⟨x, hx, l, rfl, hl, hb⟩ := gh.2 a _ hf
  have e : aI h a j = l.getD j 0 := by unfold aI; rw [hx]
  rw [e]
  have hm : l.getD j 0 ∈ l := by
    rw [List.getD_eq_getElem?_getD, List.getElem?_eq_getElem (by omega)]
    exact List.getElem_mem (by omega)
  exact ⟨l, hx, hl, rfl, (hb _ hm).1, (hb _ hm).2⟩
theorem setA_sp {H : AH} {h : MH} {t n a j : Nat} {lo hi : Int} {fz : Bool} {x : Int32} (gh : gH H h) (hf : H[a]? = some (.inl (t, n, lo, hi, fz))) (hj : j < n) (x1 : lo ≤ x.toInt) (x2 : x.toInt ≤ hi) : gH H (setA h a j x) ∧ aI (setA h a j x) a j = x ∧ ∀ k, k ≠ j → aI (setA h a j x) a k = aI h a k := by
  obtain ⟨y, hy, l, rfl, hl, hb⟩ := gh.2 a _ hf
  have ha : a < h.length := (List.getElem?_eq_some_iff.mp hy).1
  have e : setA h a j x = h.set a (.inl (t, .inl (l.set j x))) := by unfold setA; rw [hy]
  rw [e]
  refine ⟨gh.put hf hy ⟨_, rfl, by simp [hl], fun z hz => ?_⟩, ?_, fun k hk => ?_⟩
  · rcases List.mem_or_eq_of_mem_set hz with hz | rfl
    · exact hb z hz
    · exact ⟨x1, x2⟩
  · unfold aI
    rw [List.getElem?_set_self ha]
    dsimp only
    rw [List.getD_eq_getElem?_getD, List.getElem?_set_self (by omega)]
    rfl
  · unfold aI
    rw [List.getElem?_set_self ha, hy]
    dsimp only
    rw [List.getD_eq_getElem?_getD, List.getElem?_set_ne (Ne.symm hk), List.getD_eq_getElem?_getD]
section RPS
variable {M M1 : MM} {i y : Nat} {L : ML} {st : List Value} {h : MH} {P : Option Value → MH → Prop} {c : Jvm.ClassFile.Cond} {pc len : Nat} {off : Int} {ops : List Int} {H : AH}
theorem RP.step {i1 : Nat} {L1 : ML} {st1 : List Value} {h1 : MH} (hs : mstep false [] M i L st h = some (.inl (i1, L1, st1, h1))) (k : RP M i1 L1 st1 h1 P) : RP M i L st h P := by
  obtain ⟨r, h2, k1, k2⟩ := k
  exact ⟨r, h2, Rn.step hs k1, k2⟩
theorem RP.ret {r : Option Value} (hs : mstep false [] M i L st h = some (.inr (.inr r))) (hp : P r h) : RP M i L st h P := ⟨r, h, Rn.ret hs, hp⟩
theorem RP.mono {P1 : Option Value → MH → Prop} (k : RP M i L st h P1) (hp : ∀ r h1, P1 r h1 → P r h1) : RP M i L st h P := by
  obtain ⟨r, h2, k1, k2⟩ := k
  exact ⟨r, h2, k1, hp _ _ k2⟩
theorem RP.call {as rest : List Value} {P1 : Option Value → MH → Prop} (hs : mstep false [] M i L st h = some (.inr (.inl (y, as, rest)))) (hy : m_tab[y]? = some M1) (ha : Nat.ble (entL as).length (mx M1) = true) (kc : RP M1 0 (m_ent (mx M1) as) [] h P1) (k : ∀ r h1, P1 r h1 → RP M (i + 1) L (r.toList ++ rest) h1 P) : RP M i L st h P := by
  obtain ⟨r, h1, c1, c2⟩ := kc
  obtain ⟨r2, h2, k1, k2⟩ := k r h1 c2
  exact ⟨r2, h2, Rn.call hs hy ha c1 k1, k2⟩
/-- a call by a contract -/
theorem RP.callP {as rest : List Value} {ct : CT} (hs : mstep false [] M i L st h = some (.inr (.inl (y, as, rest)))) (hc : CtP H ct) (hy : ct.1 = y) (gs : gS [] ct.2.1 as) (gh : gH H h) (k : ∀ (r : Option Value) (h1 : MH) (alt : Option AV × List (Nat × Int × Int)), alt ∈ ct.2.2 → gR [] alt.1 r → gH H h1 → fH H h h1 → RP M (i + 1) L (r.toList ++ rest) h1 P) : RP M i L st h P := by
  obtain ⟨M1, hM1⟩ := Option.isSome_iff_exists.mp hc.2.2
  obtain ⟨d1, r, h1, alt, d2, d3, d4, d5, d6, -⟩ := hc.1 M1 hM1 as h gs gh
  obtain ⟨r2, h2, k1, k2⟩ := k r h1 alt d2 d4 d5 d6
  rw [hy] at hM1
  exact ⟨r2, h2, Rn.call hs hM1 d1 d3 k1, k2⟩
theorem RP.ifc {x : Int32} (hrow : (mc M)[i]? = some (pc, .ifCond c off, len, ops)) (kt : m_cmp c x 0 = true → RP M (m_n ops 0) L st h P) (kf : m_cmp c x 0 = false → RP M (i + 1) L st h P) : RP M i L (.int x :: st) h P := by
  cases hc : m_cmp c x 0 with
  | true =>
    obtain ⟨r, h2, k1, k2⟩ := kt hc
    exact ⟨r, h2, Rn.ifT hrow hc k1, k2⟩
  | false =>
    obtain ⟨r, h2, k1, k2⟩ := kf hc
    exact ⟨r, h2, Rn.ifF hrow hc k1, k2⟩
theorem RP.icmp {x y : Int32} (hrow : (mc M)[i]? = some (pc, .if_icmp c off, len, ops)) (kt : m_cmp c x y = true → RP M (m_n ops 0) L st h P) (kf : m_cmp c x y = false → RP M (i + 1) L st h P) : RP M i L (.int y :: .int x :: st) h P := by
  cases hc : m_cmp c x y with
  | true =>
    obtain ⟨r, h2, k1, k2⟩ := kt hc
    exact ⟨r, h2, Rn.icT hrow hc k1, k2⟩
  | false =>
    obtain ⟨r, h2, k1, k2⟩ := kf hc
    exact ⟨r, h2, Rn.icF hrow hc k1, k2⟩
theorem RP.getR {a idx r : Nat} (hrow : (mc M)[i]? = some (pc, .getfield idx, len, ops)) (gh : gH H h) (hf : a_fd H (m_n ops 0) (m_n ops 1) a = some (.inl r)) (k : RP M (i + 1) L (.ref r :: st) h P) : RP M i L (.ref a :: st) h P := by
  obtain ⟨fs, vs, v, -, -, hx, -, hv, gv, -⟩ := fd_sp gh hf
  have gv : v = .ref r := gv
  subst gv
  refine RP.step ?_ k
  unfold mstep
  rw [hrow]
  show o_get (m_n ops 0) (m_n ops 1) i L (Value.ref a :: st) h = _
  unfold o_get
  dsimp only
  rw [hx]
  dsimp only
  rw [beq_self_eq_true, hv]
  rfl
theorem RP.getI {a idx : Nat} {lo hi : Int} {fz : Bool} (hrow : (mc M)[i]? = some (pc, .getfield idx, len, ops)) (gh : gH H h) (hf : a_fd H (m_n ops 0) (m_n ops 1) a = some (.inr (lo, hi, fz))) (k : lo ≤ (fI h a (m_n ops 1)).toInt → (fI h a (m_n ops 1)).toInt ≤ hi → RP M (i + 1) L (.int (fI h a (m_n ops 1)) :: st) h P) : RP M i L (.ref a :: st) h P := by
  obtain ⟨vs, hx, hv, x1, x2⟩ := fI_sp gh hf
  refine RP.step ?_ (k x1 x2)
  unfold mstep
  rw [hrow]
  show o_get (m_n ops 0) (m_n ops 1) i L (Value.ref a :: st) h = _
  unfold o_get
  dsimp only
  rw [hx]
  dsimp only
  rw [beq_self_eq_true, hv]
  rfl
theorem RP.putI {a idx : Nat} {lo hi : Int} {fz : Bool} {x : Int32} (hrow : (mc M)[i]? = some (pc, .putfield idx, len, ops)) (gh : gH H h) (hf : a_fd H (m_n ops 0) (m_n ops 1) a = some (.inr (lo, hi, fz))) (hfit : m_fit (m_n ops 3) (.int x) = true) (k : RP M (i + 1) L st (setF h a (m_n ops 1) x) P) : RP M i L (.int x :: .ref a :: st) h P := by
  obtain ⟨vs, hx, hv, -, -⟩ := fI_sp gh hf
  have hk : m_n ops 1 < vs.length := (List.getElem?_eq_some_iff.mp hv).1
  refine RP.step ?_ k
  unfold mstep
  rw [hrow]
  show o_put (m_n ops 0) (m_n ops 1) (m_n ops 3) i L (Value.int x :: Value.ref a :: st) h = _
  unfold o_put setF
  dsimp only
  rw [hx]
  dsimp only
  rw [beq_self_eq_true, hfit, decide_eq_true hk]
  rfl
theorem RP.ald {a t n : Nat} {lo hi : Int} {fz : Bool} {j : Int32} (hrow : (mc M)[i]? = some (pc, if t = 0 then .iaload else .baload, len, ops)) (ht : t = 0 ∨ t = 1) (gh : gH H h) (hf : H[a]? = some (.inl (t, n, lo, hi, fz))) (j1 : 0 ≤ j.toInt) (j2 : j.toInt < (n : Int)) (k : lo ≤ (aI h a j.toNatClampNeg).toInt → (aI h a j.toNatClampNeg).toInt ≤ hi → RP M (i + 1) L (.int (aI h a j.toNatClampNeg) :: st) h P) : RP M i L (.int j :: .ref a :: st) h P := by
  have hok := z_ok j1 j2
  obtain ⟨l, hx, hl, he, x1, x2⟩ := aI_sp gh hf (m_ok_lt hok)
  refine RP.step ?_ (k x1 x2)
  unfold mstep
  rw [hrow]
  have key : o_ald false [] t i L (.int j :: .ref a :: st) h = some (.inl (i + 1, L, .int (aI h a j.toNatClampNeg) :: st, h)) := by
    unfold o_ald
    dsimp only
    rw [hx]
    dsimp only
    rw [hl, hok, beq_self_eq_true, he]
    rfl
  rcases ht with rfl | rfl
  · exact key
  · exact key
theorem RP.ast {a n : Nat} {lo hi : Int} {fz : Bool} {j x : Int32} (hrow : (mc M)[i]? = some (pc, .iastore, len, ops)) (gh : gH H h) (hf : H[a]? = some (.inl (0, n, lo, hi, fz))) (j1 : 0 ≤ j.toInt) (j2 : j.toInt < (n : Int)) (k : RP M (i + 1) L st (setA h a j.toNatClampNeg x) P) : RP M i L (.int x :: .int j :: .ref a :: st) h P := by
  have hok := z_ok j1 j2
  obtain ⟨l, hx, hl, -, -, -⟩ := aI_sp gh hf (m_ok_lt hok)
  refine RP.step ?_ k
  unfold mstep
  rw [hrow]
  show o_ast 0 i L (Value.int x :: Value.int j :: Value.ref a :: st) h = _
  unfold o_ast setA
  dsimp only
  rw [hx]
  dsimp only
  rw [hl, hok]
  rfl
theorem cv_step {a idx : Nat} {as vs : List Value} {fl : Bool} {xs : List Int32} (hrow : (mc M)[i]? = some (pc, .invokevirtual idx, len, ops)) (hst : (st.take (m_n ops 1 + 1)).reverse = .ref a :: as) (hx : h[a]? = some (.inr (m_n ops 2, vs))) (hn : as.length = m_n ops 1) (hsm : m_small (st.drop (m_n ops 1 + 1)) = true) : mstep fl xs M i L st h = some (.inr (.inl (m_n ops 0, .ref a :: as, st.drop (m_n ops 1 + 1)))) := by
  unfold mstep
  rw [hrow]
  show o_cv _ _ _ _ _ = _
  unfold o_cv
  rw [hst]
  dsimp only
  rw [hx]
  dsimp only
  rw [beq_self_eq_true, decide_eq_true hn, hsm]
  rfl
theorem ob_sp {a ci : Nat} (gh : gH H h) (ho : a_ob H ci a = true) : ∃ vs, h[a]? = some (.inr (ci, vs)) := by
  unfold a_ob at ho
  split at ho
  · rename_i c fs hc
    have e : c = ci := by simpa using ho
    subst e
    obtain ⟨x, hx, ws, rfl, -, -⟩ := gh.2 a _ hc
    exact ⟨ws, hx⟩
  · cases ho
end RPS
