/-! the abstract instructions, each with its soundness -/
def a_cat (a : AV) : Nat := match a with
  | .inr (.inr _) => 2
  | _ => 1
theorem gV_cat {s : ML} {a : AV} {v : Value} (h : gV s a v) : v.category = a_cat a := by
  obtain ⟨_, _, _⟩ | _ | _ := a
  · obtain ⟨x, rfl, _⟩ := h; rfl
  · obtain ⟨x, rfl, _⟩ := h; rfl
  · obtain ⟨x, rfl, _⟩ := h; rfl
def gR (s : ML) (r : Option AV) (v : Option Value) : Prop := match r, v with
  | none, none => True
  | some a, some v => gV s a v
  | _, _ => False
def AOK (H : AH) (s : ML) (h : MH) (o : Option AO) (m : Option MO) : Prop := match o with
  | none => True
  | some (.inl succs) => ∃ (i1 : Nat) (A1 : AL) (st1 : List AV) (L1 : ML) (cst1 : List Value) (h1 : MH), (i1, A1, st1) ∈ succs ∧ m = some (.inl (i1, L1, cst1, h1)) ∧ gL s A1 L1 ∧ gS s st1 cst1 ∧ gH H h1 ∧ fH H h h1
  | some (.inr (.inl (y, as, rest))) => ∃ (cas crest : List Value), m = some (.inr (.inl (y, cas, crest))) ∧ gS s as cas ∧ gS s rest crest
  | some (.inr (.inr r)) => ∃ cr, m = some (.inr (.inr cr)) ∧ gR s r cr
theorem gS_c {s : ML} {a : AV} {as : List AV} {cst : List Value} (h : gS s (a :: as) cst) : ∃ v vs, cst = v :: vs ∧ gV s a v ∧ gS s as vs := by
  cases cst with
  | nil => exact h.elim
  | cons v vs => exact ⟨v, vs, rfl, h.1, h.2⟩
theorem gS_n {s : ML} {cst : List Value} (h : gS s [] cst) : cst = [] := by
  cases cst with
  | nil => rfl
  | cons v vs => exact h.elim
theorem gS_small {s : ML} : ∀ {as : List AV} {vs : List Value}, gS s as vs → (vs.map fun v => v.category).sum = (as.map a_cat).sum
  | [], [], _ => rfl
  | a :: as, v :: vs, h => by
    simp only [List.map_cons, List.sum_cons]
    rw [gV_cat h.1, gS_small h.2]
  | [], _ :: _, h => h.elim
  | _ :: _, [], h => h.elim
theorem gS_len {s : ML} : ∀ {as : List AV} {vs : List Value}, gS s as vs → as.length = vs.length
  | [], [], _ => rfl
  | a :: as, v :: vs, h => by simp [gS_len h.2]
  | [], _ :: _, h => h.elim
  | _ :: _, [], h => h.elim
theorem gS_app {s : ML} : ∀ {as bs : List AV} {vs ws : List Value}, gS s as vs → gS s bs ws → gS s (as ++ bs) (vs ++ ws)
  | [], _, [], _, _, h => h
  | a :: as, _, v :: vs, _, h, g => ⟨h.1, gS_app h.2 g⟩
  | [], _, _ :: _, _, h, _ => h.elim
  | _ :: _, _, [], _, h, _ => h.elim
theorem gS_rev {s : ML} : ∀ {as : List AV} {vs : List Value}, gS s as vs → gS s as.reverse vs.reverse
  | [], [], _ => trivial
  | a :: as, v :: vs, h => by
    rw [List.reverse_cons, List.reverse_cons]
    exact gS_app (gS_rev h.2) ⟨h.1, trivial⟩
  | [], _ :: _, h => h.elim
  | _ :: _, [], h => h.elim
theorem gS_take {s : ML} : ∀ (n : Nat) {as : List AV} {vs : List Value}, gS s as vs → gS s (as.take n) (vs.take n) ∧ gS s (as.drop n) (vs.drop n)
  | 0, _, _, h => ⟨by simp [gS], h⟩
  | n + 1, [], [], _ => ⟨trivial, trivial⟩
  | n + 1, a :: as, v :: vs, h => ⟨⟨h.1, (gS_take n h.2).1⟩, (gS_take n h.2).2⟩
  | _ + 1, [], _ :: _, h => h.elim
  | _ + 1, _ :: _, [], h => h.elim
def a_nx (i : Nat) (A : AL) (st : List AV) : Option AO := some (.inl [(i + 1, A, st)])
section AOP
variable {H : AH} {s : ML} {h h1 : MH} {i k : Nat} {A A1 : AL} {L L1 : ML} {st st1 : List AV} {cst cst1 : List Value} {xs : List Int32} {ops : List Int}
theorem ok_nx (gl : gL s A1 L1) (gs : gS s st1 cst1) (gh : gH H h1) (gf : fH H h h1) : AOK H s h (a_nx i A1 st1) (o_nx i L1 cst1 h1) := ⟨i + 1, A1, st1, L1, cst1, h1, List.mem_singleton.mpr rfl, rfl, gl, gs, gh, gf⟩
def a_ii (f : (Int × Int × Option (Nat × Int)) → (Int × Int × Option (Nat × Int)) → AV) (i : Nat) (A : AL) (st : List AV) : Option AO := match st with
  | .inl b :: .inl a :: r => a_nx i A (f a b :: r)
  | _ => none
theorem ka_ii {f : (Int × Int × Option (Nat × Int)) → (Int × Int × Option (Nat × Int)) → AV} {g : Int32 → Int32 → Int32} (hf : okII f g) (gl : gL s A L) (gs : gS s st cst) (gh : gH H h) : AOK H s h (a_ii f i A st) (o_ii g i L cst h) := by
  unfold a_ii
  split
  · rename_i b a r
    obtain ⟨v1, vs1, rfl, g1, gs1⟩ := gS_c gs
    obtain ⟨v2, vs2, rfl, g2, gs2⟩ := gS_c gs1
    obtain ⟨y, rfl, g1'⟩ := id g1
    obtain ⟨x, rfl, g2'⟩ := id g2
    exact ok_nx gl ⟨hf s a b x y g2 g1, gs2⟩ gh (fH.rf H h)
  · trivial
/-- a divisor above 0 -/
def a_id (f : (Int × Int × Option (Nat × Int)) → (Int × Int × Option (Nat × Int)) → AV) (i : Nat) (A : AL) (st : List AV) : Option AO := match st with
  | .inl b :: .inl a :: r => if 0 < b.1 then a_nx i A (f a b :: r) else none
  | _ => none
theorem ka_id {f : (Int × Int × Option (Nat × Int)) → (Int × Int × Option (Nat × Int)) → AV} {g : Int32 → Int32 → Int32} (hf : okII f g) (gl : gL s A L) (gs : gS s st cst) (gh : gH H h) : AOK H s h (a_id f i A st) (o_id g i L cst h) := by
  unfold a_id
  split
  · rename_i b a r
    obtain ⟨v1, vs1, rfl, g1, gs1⟩ := gS_c gs
    obtain ⟨v2, vs2, rfl, g2, gs2⟩ := gS_c gs1
    obtain ⟨y, rfl, y1, y2, y3⟩ := id g1
    obtain ⟨x, rfl, g2'⟩ := id g2
    split
    · rename_i hb
      have hy : ¬ y = 0 := fun e => by
        subst e
        have : (0 : Int32).toInt = 0 := by decide
        omega
      unfold o_id
      dsimp only
      rw [if_neg hy]
      exact ok_nx gl ⟨hf s a b x y g2 g1, gs2⟩ gh (fH.rf H h)
    · trivial
  · trivial
def a_jj (i : Nat) (A : AL) (st : List AV) : Option AO := match st with
  | .inr (.inr _) :: .inr (.inr _) :: r => a_nx i A (.inr (.inr 0) :: r)
  | _ => none
theorem gV_l (s : ML) (x : Int64) : gV s (.inr (.inr 0)) (.long x) := ⟨x, rfl, fun h => absurd h (by omega), fun h => absurd h (by omega)⟩
theorem ka_jj {g : Int64 → Int64 → Int64} (gl : gL s A L) (gs : gS s st cst) (gh : gH H h) : AOK H s h (a_jj i A st) (o_jj g i L cst h) := by
  unfold a_jj
  split
  · obtain ⟨v1, vs1, rfl, g1, gs1⟩ := gS_c gs
    obtain ⟨v2, vs2, rfl, g2, gs2⟩ := gS_c gs1
    obtain ⟨y, rfl, -⟩ := g1
    obtain ⟨x, rfl, -⟩ := g2
    exact ok_nx gl ⟨gV_l s _, gs2⟩ gh (fH.rf H h)
  · trivial
def a_jd (i : Nat) (A : AL) (st : List AV) : Option AO := match st with
  | .inr (.inr nz) :: .inr (.inr _) :: r => if 1 ≤ nz then a_nx i A (.inr (.inr 0) :: r) else none
  | _ => none
theorem ka_jd {g : Int64 → Int64 → Int64} (gl : gL s A L) (gs : gS s st cst) (gh : gH H h) : AOK H s h (a_jd i A st) (o_jd g i L cst h) := by
  unfold a_jd
  split
  · obtain ⟨v1, vs1, rfl, g1, gs1⟩ := gS_c gs
    obtain ⟨v2, vs2, rfl, g2, gs2⟩ := gS_c gs1
    obtain ⟨y, rfl, hy, -⟩ := g1
    obtain ⟨x, rfl, -⟩ := g2
    split
    · rename_i hz
      unfold o_jd
      dsimp only
      rw [if_neg (hy hz)]
      exact ok_nx gl ⟨gV_l s _, gs2⟩ gh (fH.rf H h)
    · trivial
  · trivial
/-- from an int to an int of any size, or to a long -/
def a_i1 (a : AV) (i : Nat) (A : AL) (st : List AV) : Option AO := match st with
  | .inl _ :: r => a_nx i A (a :: r)
  | _ => none
theorem ka_i1 {a : AV} {f : Int32 → Value} (hf : ∀ x, gV s a (f x)) (gl : gL s A L) (gs : gS s st cst) (gh : gH H h) : AOK H s h (a_i1 a i A st) (o_i1 f i L cst h) := by
  unfold a_i1
  split
  · obtain ⟨v1, vs1, rfl, g1, gs1⟩ := gS_c gs
    obtain ⟨y, rfl, -⟩ := g1
    exact ok_nx gl ⟨hf y, gs1⟩ gh (fH.rf H h)
  · trivial
def a_lshl (i : Nat) (A : AL) (st : List AV) : Option AO := match st with
  | .inl _ :: .inr (.inr nz) :: r => a_nx i A (.inr (.inr (if nz = 2 then 1 else 0)) :: r)
  | _ => none
theorem z_shl (z : Int64) : ¬ (1 : Int64) <<< (z &&& 63) = 0 := by
  intro h
  have e : (1 : Int64) <<< (z &&& 63) = Int64.ofBitVec ((1 : Int64).toBitVec <<< ((z &&& 63).toBitVec.smod 64)) := rfl
  have hn : ((z &&& 63).toBitVec.smod 64).toNat < 64 := by
    have h1 : (z &&& 63).toBitVec = z.toBitVec &&& 63#64 := rfl
    rw [h1]
    have h2 : (z.toBitVec &&& 63#64).toNat ≤ 63 := by
      rw [BitVec.toNat_and]
      exact Nat.and_le_right
    rw [BitVec.smod_eq]
    have m1 : (z.toBitVec &&& 63#64).msb = false := by
      rw [BitVec.msb_eq_false_iff_two_mul_lt]
      omega
    have m2 : (64 : BitVec 64).msb = false := by decide
    rw [m1, m2]
    simp only [BitVec.umod_eq, BitVec.toNat_umod]
    exact Nat.mod_lt _ (by decide)
  have h3 := congrArg (fun w : Int64 => w.toBitVec.toNat) h
  rw [e] at h3
  simp only [Int64.toBitVec_ofBitVec] at h3
  rw [BitVec.shiftLeft_eq', BitVec.toNat_shiftLeft] at h3
  have e1 : ((1 : Int64).toBitVec).toNat = 1 := by decide
  have e0 : ((0 : Int64).toBitVec).toNat = 0 := by decide
  rw [e1, e0, Nat.shiftLeft_eq, Nat.one_mul, Nat.mod_eq_of_lt (Nat.pow_lt_pow_right (by decide) hn)] at h3
  exact absurd h3 (Nat.ne_of_gt (Nat.two_pow_pos _))
theorem ka_lshl (gl : gL s A L) (gs : gS s st cst) (gh : gH H h) : AOK H s h (a_lshl i A st) (o_lshl i L cst h) := by
  unfold a_lshl
  split
  · obtain ⟨v1, vs1, rfl, g1, gs1⟩ := gS_c gs
    obtain ⟨v2, vs2, rfl, g2, gs2⟩ := gS_c gs1
    obtain ⟨y, rfl, -⟩ := g1
    obtain ⟨x, rfl, -, hx⟩ := g2
    refine ok_nx gl ⟨⟨_, rfl, ?_, ?_⟩, gs2⟩ gh (fH.rf H h)
    · intro hc
      split at hc
      · rename_i hz
        rw [hx hz]
        exact z_shl _
      · omega
    · intro hc
      split at hc <;> omega
  · trivial
def a_lcmp (i : Nat) (A : AL) (st : List AV) : Option AO := match st with
  | .inr (.inr _) :: .inr (.inr _) :: r => a_nx i A (aTop :: r)
  | _ => none
theorem ka_lcmp (gl : gL s A L) (gs : gS s st cst) (gh : gH H h) : AOK H s h (a_lcmp i A st) (o_lcmp i L cst h) := by
  unfold a_lcmp
  split
  · obtain ⟨v1, vs1, rfl, g1, gs1⟩ := gS_c gs
    obtain ⟨v2, vs2, rfl, g2, gs2⟩ := gS_c gs1
    obtain ⟨y, rfl, -⟩ := g1
    obtain ⟨x, rfl, -⟩ := g2
    exact ok_nx gl ⟨gV_top s _, gs2⟩ gh (fH.rf H h)
  · trivial
def a_il (k i : Nat) (A : AL) (st : List AV) : Option AO := match A[k]? with
  | some (some (.inl a)) => a_nx i A (.inl a :: st)
  | _ => none
theorem ka_il (gl : gL s A L) (gs : gS s st cst) (gh : gH H h) : AOK H s h (a_il k i A st) (o_il k i L cst h) := by
  unfold a_il
  split
  · rename_i a ha
    obtain ⟨v, hv, g⟩ := gl.2 k _ ha
    obtain ⟨x, rfl, _⟩ := id g
    unfold o_il
    rw [hv]
    exact ok_nx gl ⟨g, gs⟩ gh (fH.rf H h)
  · trivial
def a_jl (k i : Nat) (A : AL) (st : List AV) : Option AO := match A[k]? with
  | some (some (.inr (.inr b))) => a_nx i A (.inr (.inr b) :: st)
  | _ => none
theorem ka_jl (gl : gL s A L) (gs : gS s st cst) (gh : gH H h) : AOK H s h (a_jl k i A st) (o_jl k i L cst h) := by
  unfold a_jl
  split
  · rename_i b ha
    obtain ⟨v, hv, g⟩ := gl.2 k _ ha
    obtain ⟨x, rfl, _⟩ := id g
    unfold o_jl
    rw [hv]
    exact ok_nx gl ⟨g, gs⟩ gh (fH.rf H h)
  · trivial
def a_al (k i : Nat) (A : AL) (st : List AV) : Option AO := match A[k]? with
  | some (some (.inr (.inl rs))) => a_nx i A (.inr (.inl rs) :: st)
  | _ => none
theorem ka_al (gl : gL s A L) (gs : gS s st cst) (gh : gH H h) : AOK H s h (a_al k i A st) (o_al k i L cst h) := by
  unfold a_al
  split
  · rename_i rs ha
    obtain ⟨v, hv, g⟩ := gl.2 k _ ha
    obtain ⟨x, rfl, _⟩ := id g
    unfold o_al
    rw [hv]
    exact ok_nx gl ⟨g, gs⟩ gh (fH.rf H h)
  · trivial
def a_inv (A : AL) (k : Nat) : AL := match k with
  | 0 => A
  | k + 1 => A.set k none
/-- (a local just below one that is stored is forgotten only if it may be a long: here whenever it isn't known to be of one word) -/
def a_keep (A : AL) (k : Nat) : AL := match k with
  | 0 => A
  | k + 1 => match A[k]? with
    | some (some a) => if a_cat a = 1 then A else A.set k none
    | _ => A
theorem gL_keep (gl : gL s A L) : gL s (a_keep A k) (m_inv L k) := by
  refine ⟨?_, fun j a hj => ?_⟩
  · rw [m_inv_len, ← gl.1]
    unfold a_keep
    split
    · rfl
    · split
      · split <;> simp
      · rfl
  · have key : A[j]? = some (some a) ∧ ¬ (j + 1 = k ∧ a_cat a = 2) := by
      unfold a_keep at hj
      split at hj
      · exact ⟨hj, fun q => by omega⟩
      · rename_i k'
        split at hj
        · rename_i b hb
          split at hj
          · rename_i hc
            refine ⟨hj, fun q => ?_⟩
            have e : k' = j := by omega
            subst e
            rw [hb] at hj
            cases hj
            omega
          · by_cases e : k' = j
            · subst e
              rw [List.getElem?_set_self (List.getElem?_eq_some_iff.mp hb).1] at hj
              cases hj
            · rw [List.getElem?_set_ne e] at hj
              exact ⟨hj, fun q => e (by omega)⟩
        · rename_i hn
          refine ⟨hj, fun q => ?_⟩
          have e : k' = j := by omega
          subst e
          exact hn _ hj
    obtain ⟨hj, hn⟩ := key
    obtain ⟨v, hv, g⟩ := gl.2 j a hj
    refine ⟨v, ?_, g⟩
    unfold m_inv
    split
    · exact hv
    · rename_i k'
      split
      · rename_i w hw
        split
        · rename_i hc
          by_cases e : k' = j
          · subst e
            rw [hv] at hw
            cases hw
            exact absurd ⟨rfl, (gV_cat g).symm.trans hc⟩ hn
          · rw [List.getElem?_set_ne e]
            exact hv
        · exact hv
      · exact hv
theorem gL_set {a : AV} {v : Value} (gl : gL s A L) (g : gV s a v) : gL s (A.set k (some a)) (L.set k (some v)) := by
  refine ⟨by simp [gl.1], fun j b hj => ?_⟩
  by_cases e : k = j
  · subst e
    have hk : k < (A.set k (some a)).length := (List.getElem?_eq_some_iff.mp hj).1
    rw [List.length_set] at hk
    rw [List.getElem?_set_self hk] at hj
    cases hj
    exact ⟨v, List.getElem?_set_self (by rw [← gl.1]; exact hk), g⟩
  · rw [List.getElem?_set_ne e] at hj
    rw [List.getElem?_set_ne e]
    exact gl.2 j b hj
theorem gL_none (gl : gL s A L) (k : Nat) : gL s (A.set k none) (L.set k none) := by
  refine ⟨by simp [gl.1], fun j b hj => ?_⟩
  by_cases e : k = j
  · subst e
    have hk : k < (A.set k none).length := (List.getElem?_eq_some_iff.mp hj).1
    rw [List.length_set] at hk
    rw [List.getElem?_set_self hk] at hj
    cases hj
  · rw [List.getElem?_set_ne e] at hj
    rw [List.getElem?_set_ne e]
    exact gl.2 j b hj
def a_is (k i : Nat) (A : AL) (st : List AV) : Option AO := match st with
  | .inl a :: r => if k < A.length then a_nx i ((a_keep A k).set k (some (.inl a))) r else none
  | _ => none
theorem ka_is (gl : gL s A L) (gs : gS s st cst) (gh : gH H h) : AOK H s h (a_is k i A st) (o_is k i L cst h) := by
  unfold a_is
  split
  · obtain ⟨v1, vs1, rfl, g1, gs1⟩ := gS_c gs
    obtain ⟨y, rfl, _⟩ := id g1
    split
    · rename_i hk
      unfold o_is
      dsimp only
      rw [if_pos (by rw [← gl.1]; exact hk)]
      exact ok_nx (gL_set (gL_keep gl) g1) gs1 gh (fH.rf H h)
    · trivial
  · trivial
def a_as (k i : Nat) (A : AL) (st : List AV) : Option AO := match st with
  | .inr (.inl a) :: r => if k < A.length then a_nx i ((a_keep A k).set k (some (.inr (.inl a)))) r else none
  | _ => none
theorem ka_as (gl : gL s A L) (gs : gS s st cst) (gh : gH H h) : AOK H s h (a_as k i A st) (o_as k i L cst h) := by
  unfold a_as
  split
  · obtain ⟨v1, vs1, rfl, g1, gs1⟩ := gS_c gs
    obtain ⟨y, rfl, _⟩ := id g1
    split
    · rename_i hk
      unfold o_as
      dsimp only
      rw [if_pos (by rw [← gl.1]; exact hk)]
      exact ok_nx (gL_set (gL_keep gl) g1) gs1 gh (fH.rf H h)
    · trivial
  · trivial
def a_js (k i : Nat) (A : AL) (st : List AV) : Option AO := match st with
  | .inr (.inr a) :: r => if k + 1 < A.length then a_nx i (((a_keep A k).set (k + 1) none).set k (some (.inr (.inr a)))) r else none
  | _ => none
theorem ka_js (gl : gL s A L) (gs : gS s st cst) (gh : gH H h) : AOK H s h (a_js k i A st) (o_js k i L cst h) := by
  unfold a_js
  split
  · obtain ⟨v1, vs1, rfl, g1, gs1⟩ := gS_c gs
    obtain ⟨y, rfl, _⟩ := id g1
    split
    · rename_i hk
      unfold o_js
      dsimp only
      rw [if_pos (by rw [← gl.1]; exact hk)]
      exact ok_nx (gL_set (gL_none (gL_keep gl) (k + 1)) g1) gs1 gh (fH.rf H h)
    · trivial
  · trivial
def a_inc (k : Nat) (n : Int) (i : Nat) (A : AL) (st : List AV) : Option AO := match A[k]? with
  | some (some (.inl a)) => a_nx i ((a_keep A k).set k (some (f_add a ((Int32.ofInt n).toInt, (Int32.ofInt n).toInt, none)))) st
  | _ => none
theorem ka_inc {n : Int} (gl : gL s A L) (gs : gS s st cst) (gh : gH H h) : AOK H s h (a_inc k n i A st) (o_inc k n i L cst h) := by
  unfold a_inc
  split
  · rename_i a ha
    obtain ⟨v, hv, g⟩ := gl.2 k _ ha
    obtain ⟨x, rfl, _⟩ := id g
    unfold o_inc
    rw [hv]
    exact ok_nx (gL_set (gL_keep gl) (ok_add s a _ x (Int32.ofInt n) g (gV_c s _))) gs gh (fH.rf H h)
  · trivial
def a_dup (i : Nat) (A : AL) (st : List AV) : Option AO := match st with
  | a :: r => if a_cat a = 1 then a_nx i A (a :: a :: r) else none
  | _ => none
theorem ka_dup (gl : gL s A L) (gs : gS s st cst) (gh : gH H h) : AOK H s h (a_dup i A st) (o_dup i L cst h) := by
  unfold a_dup
  split
  · obtain ⟨v1, vs1, rfl, g1, gs1⟩ := gS_c gs
    split
    · rename_i hc
      unfold o_dup
      dsimp only
      rw [if_pos ((gV_cat g1).trans hc)]
      exact ok_nx gl ⟨g1, g1, gs1⟩ gh (fH.rf H h)
    · trivial
  · trivial
def a_dup2 (i : Nat) (A : AL) (st : List AV) : Option AO := match st with
  | a :: b :: r => if a_cat a = 1 ∧ a_cat b = 1 then a_nx i A (a :: b :: a :: b :: r) else none
  | _ => none
theorem ka_dup2 (gl : gL s A L) (gs : gS s st cst) (gh : gH H h) : AOK H s h (a_dup2 i A st) (o_dup2 i L cst h) := by
  unfold a_dup2
  split
  · obtain ⟨v1, vs1, rfl, g1, gs1⟩ := gS_c gs
    obtain ⟨v2, vs2, rfl, g2, gs2⟩ := gS_c gs1
    split
    · rename_i hc
      unfold o_dup2
      dsimp only
      rw [if_pos ⟨(gV_cat g1).trans hc.1, (gV_cat g2).trans hc.2⟩]
      exact ok_nx gl ⟨g1, g2, g1, g2, gs2⟩ gh (fH.rf H h)
    · trivial
  · trivial
end AOP
