/-! branches (they narrow what is known), the heap, calls and returns -/
def rfA (q : Option (Nat × Int)) (lo hi : Int) (a : AV) : AV := match q with
  | none => a
  | some q => match a with
    | .inl (l, u, some r) => if r = q then .inl (max l lo, min u hi, some r) else a
    | _ => a
def rfL (q : Option (Nat × Int)) (lo hi : Int) (A : AL) : AL := A.map (fun o => o.map (rfA q lo hi))
def rfS (q : Option (Nat × Int)) (lo hi : Int) (st : List AV) : List AV := st.map (rfA q lo hi)
def rfX (s : ML) (q : Option (Nat × Int)) (lo hi : Int) : Prop := ∀ k d, q = some (k, d) → ∀ y : Int32, s[k]? = some (some (.int y)) → lo ≤ y.toInt + d ∧ y.toInt + d ≤ hi
theorem rfX_of {s : ML} {l u lo hi : Int} {q : Option (Nat × Int)} {x : Int32} (g : gV s (.inl (l, u, q)) (.int x)) (h1 : lo ≤ x.toInt) (h2 : x.toInt ≤ hi) : rfX s q lo hi := by
  intro k d hq y hy
  obtain ⟨x', e, -, -, g3⟩ := g
  cases e
  obtain ⟨z, hz, e2⟩ := g3 k d hq
  rw [hz] at hy
  cases hy
  omega
theorem rfA_ok {s : ML} {q : Option (Nat × Int)} {lo hi : Int} (hX : rfX s q lo hi) {a : AV} {v : Value} (g : gV s a v) : gV s (rfA q lo hi a) v := by
  unfold rfA
  split
  · exact g
  · rename_i q
    split
    · rename_i l u r
      split
      · rename_i e
        subst e
        obtain ⟨x, rfl, g1, g2, g3⟩ := g
        obtain ⟨y, hy, e2⟩ := g3 r.1 r.2 rfl
        have := hX r.1 r.2 rfl y hy
        exact ⟨x, rfl, by omega, by omega, g3⟩
      · exact g
    · exact g
theorem rfL_ok {s : ML} {q : Option (Nat × Int)} {lo hi : Int} (hX : rfX s q lo hi) {A : AL} {L : ML} (g : gL s A L) : gL s (rfL q lo hi A) L := by
  refine ⟨by unfold rfL; rw [List.length_map]; exact g.1, fun k a ha => ?_⟩
  unfold rfL at ha
  rw [List.getElem?_map] at ha
  cases hk : A[k]? with
  | none => rw [hk] at ha; cases ha
  | some o =>
    rw [hk] at ha
    cases o with
    | none => cases ha
    | some b =>
      cases ha
      obtain ⟨v, hv, gv⟩ := g.2 k b hk
      exact ⟨v, hv, rfA_ok hX gv⟩
theorem rfS_ok {s : ML} {q : Option (Nat × Int)} {lo hi : Int} (hX : rfX s q lo hi) : ∀ {st : List AV} {cst : List Value}, gS s st cst → gS s (rfS q lo hi st) cst
  | [], [], _ => trivial
  | _ :: _, _ :: _, g => ⟨rfA_ok hX g.1, rfS_ok hX g.2⟩
  | [], _ :: _, g => g.elim
  | _ :: _, [], g => g.elim
def c_neg (c : Jvm.ClassFile.Cond) : Jvm.ClassFile.Cond := match c with
  | .eq => .ne
  | .ne => .eq
  | .lt => .ge
  | .ge => .lt
  | .gt => .le
  | .le => .gt
def rfC (c : Jvm.ClassFile.Cond) (a1 b1 a2 b2 : Int) : (Int × Int) × (Int × Int) := match c with
  | .eq => ((max a1 a2, min b1 b2), (max a1 a2, min b1 b2))
  | .ne => ((if a2 = b2 ∧ a1 = a2 then a1 + 1 else a1, if a2 = b2 ∧ b1 = a2 then b1 - 1 else b1), (a2, b2))
  | .lt => ((a1, min b1 (b2 - 1)), (max a2 (a1 + 1), b2))
  | .ge => ((max a1 a2, b1), (a2, min b2 b1))
  | .gt => ((max a1 (a2 + 1), b1), (a2, min b2 (b1 - 1)))
  | .le => ((a1, min b1 b2), (max a2 a1, b2))
theorem m_cmp_neg {c : Jvm.ClassFile.Cond} {x y : Int32} (h : m_cmp c x y = false) : m_cmp (c_neg c) x y = true := by
  cases c
  · exact decide_eq_true (of_decide_eq_false h)
  · exact decide_eq_true (Classical.not_not.mp (of_decide_eq_false h))
  · exact decide_eq_true (Int32.not_lt.mp (of_decide_eq_false h))
  · exact decide_eq_true (Int32.not_le.mp (of_decide_eq_false h))
  · exact decide_eq_true (Int32.not_lt.mp (of_decide_eq_false h))
  · exact decide_eq_true (Int32.not_le.mp (of_decide_eq_false h))
theorem rfC_ok {c : Jvm.ClassFile.Cond} {x y : Int32} {a1 b1 a2 b2 : Int} (h : m_cmp c x y = true) (x1 : a1 ≤ x.toInt) (x2 : x.toInt ≤ b1) (y1 : a2 ≤ y.toInt) (y2 : y.toInt ≤ b2) : ((rfC c a1 b1 a2 b2).1.1 ≤ x.toInt ∧ x.toInt ≤ (rfC c a1 b1 a2 b2).1.2) ∧ ((rfC c a1 b1 a2 b2).2.1 ≤ y.toInt ∧ y.toInt ≤ (rfC c a1 b1 a2 b2).2.2) := by
  cases c
  · have h : x = y := of_decide_eq_true h
    subst h
    simp only [rfC]
    omega
  · have h : ¬ x = y := of_decide_eq_true h
    have h2 : ¬ x.toInt = y.toInt := fun e => h (Int32.toInt_inj.mp e)
    simp only [rfC]
    refine ⟨⟨?_, ?_⟩, y1, y2⟩
    · split <;> omega
    · split <;> omega
  · have h := Int32.lt_iff_toInt_lt.mp (of_decide_eq_true h)
    simp only [rfC]
    omega
  · have h := Int32.le_iff_toInt_le.mp (of_decide_eq_true h)
    simp only [rfC]
    omega
  · have h := Int32.lt_iff_toInt_lt.mp (of_decide_eq_true h)
    simp only [rfC]
    omega
  · have h := Int32.le_iff_toInt_le.mp (of_decide_eq_true h)
    simp only [rfC]
    omega
/-- one side of a branch -/
def a_sd (c : Jvm.ClassFile.Cond) (t : Nat) (A : AL) (r : List AV) (x y : Int × Int × Option (Nat × Int)) : List (Nat × AL × List AV) :=
  if (rfC c x.1 x.2.1 y.1 y.2.1).1.1 ≤ (rfC c x.1 x.2.1 y.1 y.2.1).1.2 ∧ (rfC c x.1 x.2.1 y.1 y.2.1).2.1 ≤ (rfC c x.1 x.2.1 y.1 y.2.1).2.2 then
    [(t, rfL y.2.2 (rfC c x.1 x.2.1 y.1 y.2.1).2.1 (rfC c x.1 x.2.1 y.1 y.2.1).2.2 (rfL x.2.2 (rfC c x.1 x.2.1 y.1 y.2.1).1.1 (rfC c x.1 x.2.1 y.1 y.2.1).1.2 A), rfS y.2.2 (rfC c x.1 x.2.1 y.1 y.2.1).2.1 (rfC c x.1 x.2.1 y.1 y.2.1).2.2 (rfS x.2.2 (rfC c x.1 x.2.1 y.1 y.2.1).1.1 (rfC c x.1 x.2.1 y.1 y.2.1).1.2 r))]
  else []
theorem a_sd_ok {s : ML} {c : Jvm.ClassFile.Cond} {t : Nat} {A : AL} {L : ML} {r : List AV} {cr : List Value} {a b : Int × Int × Option (Nat × Int)} {x y : Int32} (h : m_cmp c x y = true) (gx : gV s (.inl a) (.int x)) (gy : gV s (.inl b) (.int y)) (gl : gL s A L) (gs : gS s r cr) : ∃ A1 st1, (t, A1, st1) ∈ a_sd c t A r a b ∧ gL s A1 L ∧ gS s st1 cr := by
  obtain ⟨lo1, hi1, q1⟩ := a
  obtain ⟨lo2, hi2, q2⟩ := b
  obtain ⟨x', e1, x1, x2, -⟩ := id gx
  obtain ⟨y', e2, y1, y2, -⟩ := id gy
  cases e1
  cases e2
  obtain ⟨p1, p2⟩ := rfC_ok h x1 x2 y1 y2
  have X1 := rfX_of gx p1.1 p1.2
  have X2 := rfX_of gy p2.1 p2.2
  unfold a_sd
  dsimp only at p1 p2 X1 X2 ⊢
  rw [if_pos ⟨Int.le_trans p1.1 p1.2, Int.le_trans p2.1 p2.2⟩]
  exact ⟨_, _, List.mem_singleton.mpr rfl, rfL_ok X2 (rfL_ok X1 gl), rfS_ok X2 (rfS_ok X1 gs)⟩
def a_if (c : Jvm.ClassFile.Cond) (t i : Nat) (A : AL) (st : List AV) : Option AO := match st with
  | .inl x :: r => some (.inl (a_sd c t A r x (0, 0, none) ++ a_sd (c_neg c) (i + 1) A r x (0, 0, none)))
  | _ => none
def a_icmp (c : Jvm.ClassFile.Cond) (t i : Nat) (A : AL) (st : List AV) : Option AO := match st with
  | .inl y :: .inl x :: r => some (.inl (a_sd c t A r x y ++ a_sd (c_neg c) (i + 1) A r x y))
  | _ => none
def a_sw (n : Nat) (ops : List Int) (A : AL) (st : List AV) : Option AO := match st with
  | .inl _ :: r => some (.inl ((List.range (n + 1)).map fun j => (m_n ops j, A, r)))
  | _ => none
def a_lo (H : AH) (r : Nat) : Int := match H[r]? with
  | some (.inl (_, _, lo, _, _)) => lo
  | _ => -2147483648
def a_hi (H : AH) (r : Nat) : Int := match H[r]? with
  | some (.inl (_, _, _, hi, _)) => hi
  | _ => 2147483647
def hullL (f : Nat → Int) (rs : List Nat) : Int := rs.foldr (fun r m => min (f r) m) 2147483647
def hullH (f : Nat → Int) (rs : List Nat) : Int := rs.foldr (fun r m => max (f r) m) (-2147483648)
theorem hullL_le {f : Nat → Int} {r : Nat} : ∀ {rs : List Nat}, r ∈ rs → hullL f rs ≤ f r
  | q :: rs, h => by
    show min (f q) (hullL f rs) ≤ f r
    rcases List.mem_cons.mp h with rfl | h
    · omega
    · have := hullL_le (f := f) h; omega
theorem hullH_le {f : Nat → Int} {r : Nat} : ∀ {rs : List Nat}, r ∈ rs → f r ≤ hullH f rs
  | q :: rs, h => by
    show f r ≤ max (f q) (hullH f rs)
    rcases List.mem_cons.mp h with rfl | h
    · omega
    · have := hullH_le (f := f) h; omega
def a_ix (H : AH) (t : Nat) (jl ju : Int) (r : Nat) : Bool := match H[r]? with
  | some (.inl (u, n, _, _, _)) => u == t && (decide (0 ≤ jl) && decide (ju < (n : Int)))
  | _ => false
def a_ald (H : AH) (t i : Nat) (A : AL) (st : List AV) : Option AO := match st with
  | .inl (jl, ju, _) :: .inr (.inl rs) :: r => bif rs.all (a_ix H t jl ju) then a_nx i A (.inl (hullL (a_lo H) rs, hullH (a_hi H) rs, none) :: r) else none
  | _ => none
def a_wr (H : AH) (t : Nat) (jl ju vl vu : Int) (r : Nat) : Bool := match H[r]? with
  | some (.inl (u, n, lo, hi, fz)) => u == t && (decide (0 ≤ jl) && (decide (ju < (n : Int)) && (decide (lo ≤ vl) && (decide (vu ≤ hi) && (!fz && (t == 0 || (t == 1 && (decide (0 ≤ vl) && decide (vu ≤ 1)))))))))
  | _ => false
def a_ast (H : AH) (t i : Nat) (A : AL) (st : List AV) : Option AO := match st with
  | .inl (vl, vu, _) :: .inl (jl, ju, _) :: .inr (.inl rs) :: r => bif rs.all (a_wr H t jl ju vl vu) then a_nx i A r else none
  | _ => none
def a_qs (H : AH) (jl ju : Int) (r : Nat) : List Nat := match H[r]? with
  | some (.inr (.inl (_, qs))) => (qs.drop jl.toNat).take (ju.toNat + 1 - jl.toNat)
  | _ => []
def a_iq (H : AH) (jl ju : Int) (r : Nat) : Bool := match H[r]? with
  | some (.inr (.inl (u, qs))) => (u == 2 || (u == 3 || u == 4)) && (decide (0 ≤ jl) && decide (ju < (qs.length : Int)))
  | _ => false
def a_aald (H : AH) (i : Nat) (A : AL) (st : List AV) : Option AO := match st with
  | .inl (jl, ju, _) :: .inr (.inl rs) :: r => bif rs.all (a_iq H jl ju) then a_nx i A (.inr (.inl (rs.flatMap (a_qs H jl ju))) :: r) else none
  | _ => none
def a_ln (H : AH) (n r : Nat) : Bool := match H[r]? with
  | some (.inl (u, m, _, _, _)) => u == 0 && m == n
  | _ => false
def a_len (H : AH) (i : Nat) (A : AL) (st : List AV) : Option AO := match st with
  | .inr (.inl (q :: qs)) :: r => match H[q]? with
    | some (.inl (_, n, _, _, _)) => bif (q :: qs).all (a_ln H n) then a_nx i A (aC (Int32.ofNat n) :: r) else none
    | _ => none
  | _ => none
def a_fd (H : AH) (ci k r : Nat) : Option AF := match H[r]? with
  | some (.inr (.inr (c, fs))) => if c = ci then fs[k]? else none
  | _ => none
def a_fl (H : AH) (ci k r : Nat) : Int := match a_fd H ci k r with
  | some (.inr (lo, _, _)) => lo
  | _ => -2147483648
def a_fh (H : AH) (ci k r : Nat) : Int := match a_fd H ci k r with
  | some (.inr (_, hi, _)) => hi
  | _ => 2147483647
def a_fr (H : AH) (ci k r : Nat) : List Nat := match a_fd H ci k r with
  | some (.inl q) => [q]
  | _ => []
def a_isi (H : AH) (ci k r : Nat) : Bool := match a_fd H ci k r with
  | some (.inr _) => true
  | _ => false
def a_isr (H : AH) (ci k r : Nat) : Bool := match a_fd H ci k r with
  | some (.inl _) => true
  | _ => false
def a_get (H : AH) (ci k i : Nat) (A : AL) (st : List AV) : Option AO := match st with
  | .inr (.inl rs) :: r => bif rs.all (a_isi H ci k) then a_nx i A (.inl (hullL (a_fl H ci k) rs, hullH (a_fh H ci k) rs, none) :: r) else bif rs.all (a_isr H ci k) then a_nx i A (.inr (.inl (rs.flatMap (a_fr H ci k))) :: r) else none
  | _ => none
def a_pf (H : AH) (ci k tc : Nat) (vl vu : Int) (r : Nat) : Bool := match a_fd H ci k r with
  | some (.inr (lo, hi, fz)) => !fz && (decide (lo ≤ vl) && (decide (vu ≤ hi) && (tc == 0 || (tc == 1 && (decide (0 ≤ vl) && decide (vu ≤ 1))))))
  | _ => false
def a_put (H : AH) (ci k tc i : Nat) (A : AL) (st : List AV) : Option AO := match st with
  | .inl (vl, vu, _) :: .inr (.inl rs) :: r => bif rs.all (a_pf H ci k tc vl vu) then a_nx i A r else none
  | _ => none
def a_small (r : List AV) : Bool := decide ((r.map a_cat).sum ≤ 8)
def a_cp (H : AH) (n dp sp : Int) (a1 a0 : Nat) : Bool := match H[a0]?, H[a1]? with
  | some (.inl (0, n0, lo0, hi0, _)), some (.inl (0, n1, lo1, hi1, fz)) => (decide (0 ≤ n) && (decide (0 ≤ dp) && decide (0 ≤ sp))) && (decide (sp + n ≤ (n0 : Int)) && (decide (dp + n ≤ (n1 : Int)) && (decide (lo1 ≤ lo0) && (decide (hi0 ≤ hi1) && !fz))))
  | _, _ => false
def a_cpy (H : AH) (i : Nat) (A : AL) (st : List AV) : Option AO := match st with
  | .inl (nl, nu, _) :: .inl (dl, du, _) :: .inr (.inl rs) :: .inl (sl, su, _) :: .inr (.inl [a0]) :: r => bif (decide (nl = nu) && (decide (dl = du) && decide (sl = su))) && (rs.all (fun a1 => a_cp H nl dl sl a1 a0) && a_small r) then a_nx i A r else none
  | _ => none
def a_mm (mn : Bool) (i : Nat) (A : AL) (st : List AV) : Option AO := match st with
  | .inl b :: .inl a :: r => bif a_small r then a_nx i A ((bif mn then .inl (min a.1 b.1, min a.2.1 b.2.1, none) else .inl (max a.1 b.1, max a.2.1 b.2.1, none)) :: r) else none
  | _ => none
def a_ma (i : Nat) (A : AL) (st : List AV) : Option AO := match st with
  | .inl _ :: r => bif a_small r then a_nx i A (aTop :: r) else none
  | _ => none
def a_ob (H : AH) (ci r : Nat) : Bool := match H[r]? with
  | some (.inr (.inr (c, _))) => c == ci
  | _ => false
def a_cv (H : AH) (y n ci : Nat) (st : List AV) : Option AO := match (st.take (n + 1)).reverse with
  | .inr (.inl rs) :: as => bif rs.all (a_ob H ci) && (decide (as.length = n) && a_small (st.drop (n + 1))) then some (.inr (.inl (y, .inr (.inl rs) :: as, st.drop (n + 1)))) else none
  | _ => none
def a_cs (y n : Nat) (st : List AV) : Option AO := bif decide ((st.take n).length = n) && a_small (st.drop n) then some (.inr (.inl (y, (st.take n).reverse, st.drop n))) else none
def a_ret (z : Nat) (st : List AV) : Option AO := match st with
  | [.inl a] => bif z == 0 || (z == 1 && (decide (0 ≤ a.1) && decide (a.2.1 ≤ 1))) then some (.inr (.inr (some (.inl a)))) else none
  | _ => none
def a_lret (st : List AV) : Option AO := match st with
  | [.inr (.inr b)] => some (.inr (.inr (some (.inr (.inr b)))))
  | _ => none
def a_aret (st : List AV) : Option AO := match st with
  | [.inr (.inl rs)] => some (.inr (.inr (some (.inr (.inl rs)))))
  | _ => none
def a_vret (st : List AV) : Option AO := match st with
  | [] => some (.inr (.inr none))
  | _ => none
def a_lk (x : Int64) : Nat := if x = 1 then 2 else if x = 0 then 0 else 1
theorem gV_lk (s : ML) (x : Int64) : gV s (.inr (.inr (a_lk x))) (.long x) := by
  refine ⟨x, rfl, ?_, ?_⟩
  · intro h e
    subst e
    revert h
    decide
  · intro h
    unfold a_lk at h
    split at h
    · assumption
    · split at h <;> omega
def aexec (H : AH) (ins : Instr) (ops : List Int) (i : Nat) (A : AL) (st : List AV) : Option AO := match ins with
  | .iconst n => a_nx i A (aC (Int32.ofInt n) :: st)
  | .bipush n => a_nx i A (aC (Int8.ofInt n).toInt32 :: st)
  | .sipush n => a_nx i A (aC (Int16.ofInt n).toInt32 :: st)
  | .ldc _ => a_nx i A (aC (Int32.ofInt (ops.getD 0 0)) :: st)
  | .ldc_w _ => a_nx i A (aC (Int32.ofInt (ops.getD 0 0)) :: st)
  | .ldc2_w _ => a_nx i A (.inr (.inr (a_lk (Int64.ofInt (ops.getD 0 0)))) :: st)
  | .lconst n => a_nx i A (.inr (.inr (a_lk (Int64.ofNat n))) :: st)
  | .iload k => a_il k i A st
  | .iload_n k => a_il k i A st
  | .lload k => a_jl k i A st
  | .lload_n k => a_jl k i A st
  | .aload k => a_al k i A st
  | .aload_n k => a_al k i A st
  | .istore k => a_is k i A st
  | .istore_n k => a_is k i A st
  | .lstore k => a_js k i A st
  | .lstore_n k => a_js k i A st
  | .astore k => a_as k i A st
  | .astore_n k => a_as k i A st
  | .iinc k n => a_inc k n i A st
  | .dup => a_dup i A st
  | .dup2 => a_dup2 i A st
  | .iadd => a_ii f_add i A st
  | .isub => a_ii f_sub i A st
  | .imul => a_ii f_mul i A st
  | .iand => a_ii f_and i A st
  | .ior => a_ii f_and i A st
  | .ixor => a_ii f_and i A st
  | .ishl => a_ii f_shl i A st
  | .ishr => a_ii f_and i A st
  | .iushr => a_ii f_and i A st
  | .idiv => a_id f_div i A st
  | .irem => a_id f_rem i A st
  | .ineg => a_i1 aTop i A st
  | .ladd => a_jj i A st
  | .lsub => a_jj i A st
  | .lmul => a_jj i A st
  | .ldiv => a_jd i A st
  | .lrem => a_jd i A st
  | .lshl => a_lshl i A st
  | .lcmp => a_lcmp i A st
  | .i2l => a_i1 (.inr (.inr 0)) i A st
  | .i2b => a_i1 aTop i A st
  | .i2s => a_i1 aTop i A st
  | .ifCond c _ => a_if c (m_n ops 0) i A st
  | .if_icmp c _ => a_icmp c (m_n ops 0) i A st
  | .goto _ => some (.inl [(m_n ops 0, A, st)])
  | .tableswitch _ lo hi _ => a_sw (hi - lo + 1).toNat ops A st
  | .iaload => a_ald H 0 i A st
  | .baload => a_ald H 1 i A st
  | .iastore => a_ast H 0 i A st
  | .bastore => a_ast H 1 i A st
  | .aaload => a_aald H i A st
  | .arraylength => a_len H i A st
  | .getfield _ => a_get H (m_n ops 0) (m_n ops 1) i A st
  | .putfield _ => a_put H (m_n ops 0) (m_n ops 1) (m_n ops 3) i A st
  | .invokevirtual _ => a_cv H (m_n ops 0) (m_n ops 1) (m_n ops 2) st
  | .invokestatic _ => (match m_n ops 0 with | 2 => a_cpy H i A st | 3 => a_mm false i A st | 4 => a_mm true i A st | 5 => a_ma i A st | _ => a_cs (m_n ops 1) (m_n ops 2) st)
  | .ireturn => a_ret (m_n ops 0) st
  | .lreturn => a_lret st
  | .areturn => a_aret st
  | .return_ => a_vret st
  | _ => none
