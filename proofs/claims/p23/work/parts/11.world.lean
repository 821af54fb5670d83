/-! THE WORLD that a list of cells stands for: cell i lies at base + i; the script lies at b. -/
def zt (b base : Nat) (v : Value) : Value := match v with
  | .ref i => .ref (base + i)
  | .float _ => .ref b
  | .int x => .int x
  | .long x => .long x
  | .double x => .double x
  | .null => .null
  | .retAddr x => .retAddr x
theorem zt_cat (b base : Nat) (v : Value) : (zt b base v).category = v.category := by cases v <;> rfl
def zE (b base : Nat) (cs : Nat → ClassId) (x : ME) : va_E := match x with
  | .inl (t, .inl l) => .inl (cs t, l.length, .inl (fun j => l.getD j 0))
  | .inl (t, .inr l) => .inl (cs t, l.length, .inr (.inr (.inr (.inr (fun j => (l.getD j none).map (fun q => base + q))))))
  | .inr (ci, fs) => .inr (ci, fs.map (zt b base))
def zW (b base : Nat) (cs : Nat → ClassId) (h : MH) : va_W := h.mapIdx (fun i x => (base + i, zE b base cs x))
theorem zW_len (b base : Nat) (cs : Nat → ClassId) (h : MH) : (zW b base cs h).length = h.length := by simp [zW]
theorem zW_get {b base : Nat} {cs : Nat → ClassId} {h : MH} {a : Nat} {x : ME} (hx : h[a]? = some x) : (zW b base cs h)[a]? = some (base + a, zE b base cs x) := by
  simp [zW, List.getElem?_mapIdx, hx]
theorem zW_at {b base : Nat} {cs : Nat → ClassId} {h : MH} {a : Nat} {q : Nat × va_E} (hx : (zW b base cs h)[a]? = some q) : ∃ x, h[a]? = some x ∧ q = (base + a, zE b base cs x) := by
  simp only [zW, List.getElem?_mapIdx, Option.map_eq_some_iff] at hx
  obtain ⟨x, h1, h2⟩ := hx
  exact ⟨x, h1, h2.symm⟩
theorem zW_set (b base : Nat) (cs : Nat → ClassId) (h : MH) (a : Nat) (y : ME) : (zW b base cs h).set a (base + a, zE b base cs y) = zW b base cs (h.set a y) := by
  apply List.ext_getElem?
  intro j
  by_cases e : a = j
  · subst e
    by_cases hl : a < h.length
    · simp [zW, List.getElem?_mapIdx, List.getElem?_set_self, hl]
    · simp [zW, List.getElem?_mapIdx, List.getElem?_set, hl]
  · simp [zW, List.getElem?_mapIdx, List.getElem?_set_ne e]
theorem zW_app (b base : Nat) (cs : Nat → ClassId) (h : MH) (y : ME) : zW b base cs h ++ [(base + h.length, zE b base cs y)] = zW b base cs (h ++ [y]) := by
  simp [zW, List.mapIdx_append]
theorem zW_D (b base : Nat) (cs : Nat → ClassId) (h : MH) : va_D (fun q => base ≤ q) (zW b base cs h) := by
  refine ⟨fun i j x y hx hy hxy => ?_, fun k q hk => ?_⟩
  · obtain ⟨u, -, rfl⟩ := zW_at hx
    obtain ⟨v, -, rfl⟩ := zW_at hy
    have : base + i = base + j := hxy
    omega
  · obtain ⟨u, -, rfl⟩ := zW_at hk
    exact Nat.le_add_right _ _
theorem zE_set (b base : Nat) (cs : Nat → ClassId) (t : Nat) {l : List Int32} {j : Nat} (hj : j < l.length) (x : Int32) : zE b base cs (.inl (t, .inl (l.set j x))) = .inl (cs t, l.length, .inl (upd (fun j => l.getD j 0) j x)) := by
  simp only [zE, List.length_set]
  congr 3
  refine congrArg _ (funext fun k => ?_)
  by_cases e : k = j
  · subst e
    simp [upd, List.getD_eq_getElem?_getD, List.getElem?_set_self hj]
  · simp [upd, e, List.getD_eq_getElem?_getD, List.getElem?_set_ne (Ne.symm e)]
theorem zE_setq (b base : Nat) (cs : Nat → ClassId) (t : Nat) {l : List (Option Nat)} {j : Nat} (hj : j < l.length) (v : Nat) : zE b base cs (.inl (t, .inr (l.set j (some v)))) = .inl (cs t, l.length, .inr (.inr (.inr (.inr (va_up (fun j => (l.getD j none).map (fun q => base + q)) j (some (base + v))))))) := by
  simp only [zE, List.length_set]
  refine congrArg (fun f => (Sum.inl (cs t, l.length, Sum.inr (Sum.inr (Sum.inr (Sum.inr f)))) : va_E)) (funext fun k => ?_)
  by_cases e : k = j
  · subst e
    simp [va_up, List.getD_eq_getElem?_getD, List.getElem?_set_self hj]
  · simp [va_up, e, List.getD_eq_getElem?_getD, List.getElem?_set_ne (Ne.symm e)]
theorem zE_cpy (b base : Nat) (cs : Nat → ClassId) (t : Nat) {f g : List Int32} {sp dp n : Nat} (h1 : sp + n ≤ f.length) (h2 : dp + n ≤ g.length) : zE b base cs (.inl (t, .inl (m_cpy f g sp dp n))) = .inl (cs t, g.length, .inl (va_cpy (fun j => f.getD j 0) (fun j => g.getD j 0) sp dp n)) := by
  have hl : (m_cpy f g sp dp n).length = g.length := by simp [m_cpy]; omega
  simp only [zE, hl]
  congr 3
  refine congrArg _ (funext fun k => ?_)
  simp only [m_cpy, va_cpy, List.getD_eq_getElem?_getD]
  by_cases a1 : k < dp
  · rw [if_neg (by omega), List.getElem?_append_left (by simp; omega), List.getElem?_take, if_pos a1]
  · by_cases a2 : k < dp + n
    · rw [if_pos ⟨by omega, a2⟩, List.getElem?_append_right (by simp; omega), List.getElem?_append_left (by simp; omega), List.getElem?_take, if_pos (by simp; omega), List.getElem?_drop]
      congr 2
      simp; omega
    · rw [if_neg (by omega), List.getElem?_append_right (by simp; omega), List.getElem?_append_right (by simp; omega), List.getElem?_drop]
      congr 2
      simp; omega
def szE (x : ME) : Nat := match x with
  | .inl (_, .inl l) => l.length
  | .inl (_, .inr l) => l.length
  | .inr (_, fs) => fs.length
def zs (h : MH) : Nat := (h.map szE).sum
theorem zs_set {h : MH} {a : Nat} {x y : ME} (hx : h[a]? = some x) (he : szE y = szE x) : zs (h.set a y) = zs h := by
  unfold zs
  induction h generalizing a with
  | nil => rfl
  | cons z h ih =>
    cases a with
    | zero => cases hx; simp [he]
    | succ a => simp only [List.set_cons_succ, List.map_cons, List.sum_cons]; rw [ih (by simpa using hx)]
theorem zs_app (h k : MH) : zs (h ++ k) = zs h + zs k := by simp [zs]
def tysOf (cs : Nat → ClassId) : List (ClassId × FieldType) := [(cs 0, .int), (cs 1, .boolean), (cs 2, .object "RowingEight$Text"), (cs 3, .object "RowingEight$Sheet"), (cs 4, .array .int)]
def z_AOA (U : State) : Prop := (Cond.arrayOver (.array .int)).before #[] U = true
theorem z_AOA.moved {u U : State} (hvm : u.vm.Alike U.vm) (h : z_AOA u) : z_AOA U := over_moved hvm h
def W0 : List Jvm.Cond := lw_tbl.filter goodWord
theorem W0_mem {w : Jvm.Cond} (h : w ∈ lw_tbl) (hg : goodWord w = true) : w ∈ W0 := List.mem_filter.mpr ⟨h, hg⟩
theorem c_w_mem {k : Nat} {w : Jvm.Cond} (h : c_w k w = true) : w ∈ lw_tbl := by
  unfold c_w at h
  split at h
  · rename_i v hv
    have := of_decide_eq_true h
    subst this
    exact flk_in hv
  · cases h
theorem c_w_in {k : Nat} {w : Jvm.Cond} (h : c_w k w = true) (hg : goodWord w = true) : w ∈ W0 := W0_mem (c_w_mem h) hg
/-- what the tables say at a state, beside the words -/
def zX (cs : Nat → ClassId) (D : va_G) (scr : Cell) (xs : List Int32) (U : State) : Prop :=
  va_K D vwCl (tysOf cs) U ∧ (U.isArrayOf scr .int ∧ scr.vm ≠ .unknown ∧ scr.slots.size = xs.length ∧ ∀ j, j < xs.length → scr.slots[j]? = some (.int (xs.getD j 0))) ∧ (∀ q ∈ m_nest, va_Nw (.methodLinkNest q.1 q.2.1 q.2.2.1 q.2.2.2) U) ∧ va_AO "RowingEight$Text" U ∧ va_AO "RowingEight$Sheet" U ∧ z_AOA U
theorem zX.moved {cs : Nat → ClassId} {D : va_G} {scr : Cell} {xs : List Int32} {s U : State} (hW : s.WarmedH U.vm) (h : zX cs D scr xs s) : zX cs D scr xs U :=
  ⟨va_K.moved hW.alike h.1, ⟨State.isArrayOf_alike hW.alike h.2.1.1, h.2.1.2⟩, fun q hq => va_Nw.warmM hW (h.2.2.1 q hq), h.2.2.2.1.moved hW.alike, h.2.2.2.2.1.moved hW.alike, h.2.2.2.2.2.moved hW.alike⟩
def zR (b base nL : Nat) (L : ML) (ls : Array Slot) : Prop := L.length = nL ∧ ls.size = nL ∧ lv_wf ls ∧ ∀ (k : Nat) (v : Value), L[k]? = some (some v) → ls[k]? = some (.val (zt b base v))
def asc (b base : Nat) (L : ML) : List (Nat × Value) := L.zipIdx.filterMap (fun q => q.1.map (fun v => (q.2, zt b base v)))
theorem asc_mem {b base : Nat} {L : ML} {k : Nat} {v : Value} (h : L[k]? = some (some v)) : (k, zt b base v) ∈ asc b base L := by
  refine List.mem_filterMap.mpr ⟨(some v, k), ?_, rfl⟩
  exact List.mem_zipIdx_iff_getElem?.mpr h
theorem zR.has {b base nL : Nat} {L : ML} {ls : Array Slot} (h : zR b base nL L ls) : lv_has ls nL (asc b base L) := by
  refine ⟨h.2.1, h.2.2.1, fun q hq => ?_⟩
  obtain ⟨⟨o, k⟩, h1, h2⟩ := List.mem_filterMap.mp hq
  have h3 := List.mem_zipIdx_iff_getElem?.mp h1
  cases o with
  | none => cases h2
  | some v =>
    cases h2
    exact h.2.2.2 k v h3
theorem m_inv_len (L : ML) (k : Nat) : (m_inv L k).length = L.length := by
  unfold m_inv
  split
  · rfl
  · split
    · split <;> simp
    · rfl
theorem m_inv_get {L : ML} {k j : Nat} {w : Value} (h : (m_inv L k)[j]? = some (some w)) : L[j]? = some (some w) ∧ ¬ (j + 1 = k ∧ w.category = 2) := by
  unfold m_inv at h
  split at h
  · exact ⟨h, fun q => by omega⟩
  · rename_i k'
    split at h
    · rename_i w' hw'
      split at h
      · rename_i hc
        by_cases e : k' = j
        · subst e
          rw [List.getElem?_set_self (List.getElem?_eq_some_iff.mp hw').1] at h
          cases h
        · rw [List.getElem?_set_ne e] at h
          exact ⟨h, fun q => e (by omega)⟩
      · rename_i hc
        refine ⟨h, fun q => ?_⟩
        have e : k' = j := by omega
        subst e
        rw [hw'] at h
        cases h
        exact hc q.2
    · rename_i hn
      refine ⟨h, fun q => ?_⟩
      have e : k' = j := by omega
      subst e
      exact hn _ h
theorem zR.st1 {b base nL k : Nat} {L : ML} {ls ls' : Array Slot} {v : Value} (h : zR b base nL L ls) (hk : k < L.length) (hl : lv_has ls' nL ((k, zt b base v) :: (asc b base L).filter (fun q => !(q.1 == k) && !(q.1 + 1 == k && q.2.category == 2)))) : zR b base nL (m_st1 L k v) ls' := by
  refine ⟨by simp [m_st1, m_inv_len, h.1], hl.1, hl.2.1, fun j w hj => ?_⟩
  unfold m_st1 at hj
  by_cases e : k = j
  · subst e
    rw [List.getElem?_set_self (by rw [m_inv_len]; exact hk)] at hj
    cases hj
    exact hl.2.2 _ List.mem_cons_self
  · rw [List.getElem?_set_ne e] at hj
    obtain ⟨h1, h2⟩ := m_inv_get hj
    refine hl.2.2 (j, zt b base w) (List.mem_cons_of_mem _ (List.mem_filter.mpr ⟨asc_mem h1, ?_⟩))
    simp only [zt_cat, Bool.and_eq_true, Bool.not_eq_true', beq_eq_false_iff_ne, ne_eq, Bool.and_eq_false_iff]
    refine ⟨fun q => e q.symm, ?_⟩
    by_cases g : j + 1 = k
    · exact Or.inr (fun q => h2 ⟨g, q⟩)
    · exact Or.inl g
theorem zR.st2 {b base nL k : Nat} {L : ML} {ls ls' : Array Slot} {v : Value} (h : zR b base nL L ls) (hk : k + 1 < L.length) (hl : lv_has ls' nL ((k, zt b base v) :: (asc b base L).filter (fun q => !(q.1 == k) && (!(q.1 == k + 1) && !(q.1 + 1 == k && q.2.category == 2))))) : zR b base nL (m_st2 L k v) ls' := by
  refine ⟨by simp [m_st2, m_inv_len, h.1], hl.1, hl.2.1, fun j w hj => ?_⟩
  unfold m_st2 at hj
  by_cases e : k = j
  · subst e
    rw [List.getElem?_set_self (by rw [List.length_set, m_inv_len]; omega)] at hj
    cases hj
    exact hl.2.2 _ List.mem_cons_self
  · rw [List.getElem?_set_ne e] at hj
    by_cases e2 : k + 1 = j
    · subst e2
      rw [List.getElem?_set_self (by rw [m_inv_len]; exact hk)] at hj
      cases hj
    · rw [List.getElem?_set_ne e2] at hj
      obtain ⟨h1, h2⟩ := m_inv_get hj
      refine hl.2.2 (j, zt b base w) (List.mem_cons_of_mem _ (List.mem_filter.mpr ⟨asc_mem h1, ?_⟩))
      simp only [zt_cat, Bool.and_eq_true, Bool.not_eq_true', beq_eq_false_iff_ne, ne_eq, Bool.and_eq_false_iff]
      refine ⟨fun q => e q.symm, fun q => e2 q.symm, ?_⟩
      by_cases g : j + 1 = k
      · exact Or.inr (fun q => h2 ⟨g, q⟩)
      · exact Or.inl g
theorem entL_len (b base : Nat) (as : List Value) : (lg_sl (as.map (zt b base))).length = (entL as).length := by
  induction as with
  | nil => rfl
  | cons v vs ih =>
    simp only [lg_sl, List.map_cons, List.flatMap_cons, entL, zt_cat] at ih ⊢
    split <;> simp [ih]
theorem entL_args {b base : Nat} : ∀ (as : List Value) (n k : Nat) (v : Value), (entL as)[k]? = some (some v) → (n + k, zt b base v) ∈ lv_args n (as.map (zt b base))
  | [], _, _, _, h => by simp [entL] at h
  | w :: ws, n, k, v, h => by
    simp only [entL] at h
    simp only [List.map_cons, lv_args, zt_cat]
    by_cases hc : w.category = 2
    · rw [if_pos hc] at h
      rw [if_pos hc]
      match k, h with
      | 0, h => cases h; exact List.mem_cons_self
      | 1, h => cases h
      | k + 2, h =>
        have := entL_args (b := b) (base := base) ws (n + 2) k v (by simpa using h)
        rw [show n + (k + 2) = n + 2 + k by omega]
        exact List.mem_cons_of_mem _ this
    · rw [if_neg hc] at h
      rw [if_neg hc]
      match k, h with
      | 0, h => cases h; exact List.mem_cons_self
      | k + 1, h =>
        have := entL_args (b := b) (base := base) ws (n + 1) k v (by simpa using h)
        rw [show n + (k + 1) = n + 1 + k by omega]
        exact List.mem_cons_of_mem _ this
theorem zR.entry {b base n : Nat} {as : List Value} (hl : (entL as).length ≤ n) : zR b base n (m_ent n as) ((lg_sl (as.map (zt b base)) ++ List.replicate (n - (lg_sl (as.map (zt b base))).length) Slot.unset).toArray) := by
  have h := lv_entry (as.map (zt b base)) (n := n) (by rw [entL_len]; exact hl)
  refine ⟨by simp [m_ent]; omega, h.1, h.2.1, fun k v hk => ?_⟩
  unfold m_ent at hk
  by_cases e : k < (entL as).length
  · rw [List.getElem?_append_left e] at hk
    have := entL_args (b := b) (base := base) as 0 k v hk
    rw [Nat.zero_add] at this
    exact h.2.2 _ this
  · rw [List.getElem?_append_right (by omega)] at hk
    have := List.mem_of_getElem? hk
    rw [List.mem_replicate] at this
    exact absurd this.2 (by simp)
theorem m_ok_in {j : Int32} {n : Nat} (h : m_ok j n = true) : vp_in j n := by
  simp only [m_ok, Bool.and_eq_true, Bool.not_eq_true', decide_eq_false_iff_not, decide_eq_true_eq] at h
  intro q
  rcases q with q | q
  · exact h.1 q
  · omega
theorem m_ok_lt {j : Int32} {n : Nat} (h : m_ok j n = true) : j.toNatClampNeg < n := by
  simp only [m_ok, Bool.and_eq_true, decide_eq_true_eq] at h
  exact h.2
theorem b_and {x y : Bool} (h : (x && y) = true) : x = true ∧ y = true := by simpa using h
theorem b_if {α : Type} {q : Bool} {x : Option α} {y : α} (h : (bif q then x else none) = some y) : q = true ∧ x = some y := by
  cases q
  · cases h
  · exact ⟨rfl, h⟩
theorem p_if {α : Type} {q : Prop} [Decidable q] {x : Option α} {y : α} (h : (if q then x else none) = some y) : q ∧ x = some y := by
  by_cases hq : q
  · rw [if_pos hq] at h; exact ⟨hq, h⟩
  · rw [if_neg hq] at h; cases h
theorem p_ifn {α : Type} {q : Prop} [Decidable q] {x : Option α} {y : α} (h : (if q then none else x) = some y) : ¬ q ∧ x = some y := by
  by_cases hq : q
  · rw [if_pos hq] at h; cases h
  · rw [if_neg hq] at h; exact ⟨hq, h⟩
theorem nx_eq {i i1 : Nat} {L L1 : ML} {st st1 : List Value} {h h1 : MH} (e : o_nx i L st h = some (.inl (i1, L1, st1, h1))) : i1 = i + 1 ∧ L1 = L ∧ st1 = st ∧ h1 = h := by
  unfold o_nx at e
  cases e
  exact ⟨rfl, rfl, rfl, rfl⟩
