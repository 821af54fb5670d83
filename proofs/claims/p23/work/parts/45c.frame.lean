/-! FRAMES: fields that a set of methods, closed under calls, never writes stay as they are (printed by wip/p1/framex.py) -/
def FR (bad : List (Nat × Nat)) (bb : Bool) (h h1 : MH) : Prop := (∀ (a ci : Nat) (vs : List Value), h[a]? = some (.inr (ci, vs)) → ∃ ws, h1[a]? = some (.inr (ci, ws)) ∧ ∀ k, (ci, k) ∈ bad → ws[k]? = vs[k]?) ∧ (bb = true → ∀ (a : Nat) (l : List Int32 ⊕ List (Option Nat)), h[a]? = some (.inl (1, l)) → h1[a]? = some (.inl (1, l)))
section FRS
variable {bad : List (Nat × Nat)} {bb : Bool}
theorem FR.eq {h h1 : MH} (e : h1 = h) : FR bad bb h h1 := by
  subst e
  exact ⟨fun a ci vs hx => ⟨vs, hx, fun _ _ => rfl⟩, fun _ a l hx => hx⟩
theorem FR.tr {h h1 h2 : MH} (f1 : FR bad bb h h1) (f2 : FR bad bb h1 h2) : FR bad bb h h2 := by
  refine ⟨fun a ci vs hx => ?_, fun q a l hx => f2.2 q a l (f1.2 q a l hx)⟩
  obtain ⟨ws, h1x, e1⟩ := f1.1 a ci vs hx
  obtain ⟨us, h2x, e2⟩ := f2.1 a ci ws h1x
  exact ⟨us, h2x, fun k hk => (e2 k hk).trans (e1 k hk)⟩
theorem FR.app (h l : MH) : FR bad bb h (h ++ l) := by
  refine ⟨fun a ci vs hx => ⟨vs, ?_, fun _ _ => rfl⟩, fun _ a l hx => ?_⟩
  · rw [List.getElem?_append_left (List.getElem?_eq_some_iff.mp hx).1]
    exact hx
  · rw [List.getElem?_append_left (List.getElem?_eq_some_iff.mp hx).1]
    exact hx
theorem FR.arr {h : MH} {a t : Nat} {q q2 : List Int32 ⊕ List (Option Nat)} (hx : h[a]? = some (.inl (t, q))) (ht : bb = true → ¬ t = 1) : FR bad bb h (h.set a (.inl (t, q2))) := by
  refine ⟨fun b ci vs hb => ⟨vs, ?_, fun _ _ => rfl⟩, fun z b l hb => ?_⟩
  · by_cases e : a = b
    · subst e
      rw [hx] at hb
      cases hb
    · rw [List.getElem?_set_ne e]
      exact hb
  · by_cases e : a = b
    · subst e
      rw [hx] at hb
      cases hb
      exact absurd rfl (ht z)
    · rw [List.getElem?_set_ne e]
      exact hb
theorem FR.put {h : MH} {a c k : Nat} {fs : List Value} {v : Value} (hx : h[a]? = some (.inr (c, fs))) (hk : ¬ (c, k) ∈ bad) : FR bad bb h (h.set a (.inr (c, fs.set k v))) := by
  refine ⟨fun b ci vs hb => ?_, fun z b l hb => ?_⟩
  · by_cases e : a = b
    · subst e
      rw [hx] at hb
      cases hb
      refine ⟨_, List.getElem?_set_self (List.getElem?_eq_some_iff.mp hx).1, fun k2 hk2 => ?_⟩
      have : k ≠ k2 := fun e => hk (e ▸ hk2)
      exact List.getElem?_set_ne this
    · refine ⟨vs, ?_, fun _ _ => rfl⟩
      rw [List.getElem?_set_ne e]
      exact hb
  · by_cases e : a = b
    · subst e
      rw [hx] at hb
      cases hb
    · rw [List.getElem?_set_ne e]
      exact hb
theorem FR.nx {i i1 : Nat} {L L1 : ML} {st st1 : List Value} {h h0 h1 : MH} (e : o_nx i L st h0 = some (.inl (i1, L1, st1, h1))) (hu : FR bad bb h h0) : FR bad bb h h1 := by
  rw [(nx_eq e).2.2.2]; exact hu
theorem w_ast {t i i1 : Nat} {L L1 : ML} {st st1 : List Value} {h h1 : MH} (ht : bb = true → ¬ t = 1) (hm : o_ast t i L st h = some (.inl (i1, L1, st1, h1))) : FR bad bb h h1 := by
  unfold o_ast at hm
  split at hm
  · split at hm
    · rename_i u l hq
      obtain ⟨g1, g2⟩ := b_if hm
      obtain ⟨g3, g4⟩ := b_and g1
      have e : u = t := by simpa using g3
      subst e
      exact FR.nx g2 (FR.arr hq ht)
    · cases hm
  · cases hm
theorem w_aast {i i1 : Nat} {L L1 : ML} {st st1 : List Value} {h h1 : MH} (hm : o_aast i L st h = some (.inl (i1, L1, st1, h1))) : FR bad bb h h1 := by
  unfold o_aast at hm
  split at hm
  · split at hm
    · rename_i u l c fs hq hv
      obtain ⟨g1, g2⟩ := b_if hm
      obtain ⟨g3, g4⟩ := b_and g1
      refine FR.nx g2 (FR.arr hq (fun _ e => ?_))
      subst e
      simp at g3
    · cases hm
  · cases hm
theorem w_put {ci k tc i i1 : Nat} {L L1 : ML} {st st1 : List Value} {h h1 : MH} (hk : ¬ (ci, k) ∈ bad) (hm : o_put ci k tc i L st h = some (.inl (i1, L1, st1, h1))) : FR bad bb h h1 := by
  unfold o_put at hm
  split at hm
  · split at hm
    · rename_i c fs hq
      obtain ⟨g1, g2⟩ := b_if hm
      obtain ⟨g3, g4⟩ := b_and g1
      have e : c = ci := by simpa using g3
      subst e
      exact FR.nx g2 (FR.put hq hk)
    · cases hm
  · cases hm
theorem w_cpy {i i1 : Nat} {L L1 : ML} {st st1 : List Value} {h h1 : MH} (hm : o_cpy i L st h = some (.inl (i1, L1, st1, h1))) : FR bad bb h h1 := by
  unfold o_cpy at hm
  split at hm
  · split at hm
    · rename_i f g hq0 hq1
      exact FR.nx (b_if hm).2 (FR.arr hq1 (fun _ e => by cases e))
    · cases hm
  · cases hm
theorem w_ald {fl : Bool} {xs : List Int32} {t i i1 : Nat} {L L1 : ML} {st st1 : List Value} {h h1 : MH} (hm : o_ald fl xs t i L st h = some (.inl (i1, L1, st1, h1))) : FR bad bb h h1 := by
  unfold o_ald at hm
  split at hm
  · split at hm
    · exact FR.nx (b_if hm).2 (FR.eq rfl)
    · cases hm
  · exact FR.nx (b_if hm).2 (FR.eq rfl)
  · cases hm
theorem w_aald {i i1 : Nat} {L L1 : ML} {st st1 : List Value} {h h1 : MH} (hm : o_aald i L st h = some (.inl (i1, L1, st1, h1))) : FR bad bb h h1 := by
  unfold o_aald at hm
  split at hm
  · split at hm
    · exact FR.nx (b_if hm).2 (FR.eq rfl)
    · cases hm
  · cases hm
theorem w_len {fl : Bool} {xs : List Int32} {i i1 : Nat} {L L1 : ML} {st st1 : List Value} {h h1 : MH} (hm : o_len fl xs i L st h = some (.inl (i1, L1, st1, h1))) : FR bad bb h h1 := by
  unfold o_len at hm
  split at hm
  · split at hm
    · exact FR.nx hm (FR.eq rfl)
    · cases hm
  · exact FR.nx (b_if hm).2 (FR.eq rfl)
  · cases hm
theorem w_newa {t i i1 : Nat} {L L1 : ML} {st st1 : List Value} {h h1 : MH} (hm : o_newa t i L st h = some (.inl (i1, L1, st1, h1))) : FR bad bb h h1 := by
  unfold o_newa at hm
  split at hm
  · exact FR.nx (b_if hm).2 (FR.app _ _)
  · cases hm
theorem w_newq {t i i1 : Nat} {L L1 : ML} {st st1 : List Value} {h h1 : MH} (hm : o_newq t i L st h = some (.inl (i1, L1, st1, h1))) : FR bad bb h h1 := by
  unfold o_newq at hm
  split at hm
  · exact FR.nx (b_if hm).2 (FR.app _ _)
  · cases hm
theorem w_newm {i i1 : Nat} {L L1 : ML} {st st1 : List Value} {h h1 : MH} (hm : o_newm i L st h = some (.inl (i1, L1, st1, h1))) : FR bad bb h h1 := by
  unfold o_newm at hm
  split at hm
  · exact FR.nx (b_if hm).2 (FR.app _ _)
  · cases hm
theorem w_get {ci k i i1 : Nat} {L L1 : ML} {st st1 : List Value} {h h1 : MH} (hm : o_get ci k i L st h = some (.inl (i1, L1, st1, h1))) : FR bad bb h h1 := by
  unfold o_get at hm
  split at hm
  · split at hm
    · have hm := (b_if hm).2
      split at hm
      · exact FR.nx hm (FR.eq rfl)
      · cases hm
    · cases hm
  · cases hm
theorem w_obj {i i1 : Nat} {L L1 : ML} {st st1 : List Value} {h h1 : MH} (hm : o_obj i L st h = some (.inl (i1, L1, st1, h1))) : FR bad bb h h1 := by
  unfold o_obj at hm
  split at hm
  · exact FR.nx (b_if hm).2 (FR.eq rfl)
  · cases hm
theorem w_sw {lo hi : Int} {ops : List Int} {i1 : Nat} {L L1 : ML} {st st1 : List Value} {h h1 : MH} (hm : o_sw lo hi ops L st h = some (.inl (i1, L1, st1, h1))) : FR bad bb h h1 := by
  unfold o_sw at hm
  split at hm
  · split at hm <;> (cases hm; exact FR.eq rfl)
  · cases hm
def okRow (bad : List (Nat × Nat)) (bb : Bool) (ins : Instr) (ops : List Int) : Bool := match ins with
  | .putfield _ => !(bad.contains (m_n ops 0, m_n ops 1))
  | .bastore => !bb
  | _ => true
theorem mexec_fr {fl : Bool} {xs : List Int32} {ins : Instr} {ops : List Int} {i i1 : Nat} {L L1 : ML} {st st1 : List Value} {h h1 : MH} (hok : okRow bad bb ins ops = true) (hm : mexec fl xs ins ops i L st h = some (.inl (i1, L1, st1, h1))) : FR bad bb h h1 := by
  cases ins
  case iconst n => exact FR.nx hm (FR.eq rfl)
  case bipush n => exact FR.nx hm (FR.eq rfl)
  case sipush n => exact FR.nx hm (FR.eq rfl)
  case ldc n => exact FR.nx hm (FR.eq rfl)
  case ldc_w n => exact FR.nx hm (FR.eq rfl)
  case ldc2_w n => exact FR.nx hm (FR.eq rfl)
  case lconst n => exact FR.nx hm (FR.eq rfl)
  case iload k => obtain ⟨_, _, _, _, _, e⟩ := v_il hm; exact FR.eq e
  case iload_n k => obtain ⟨_, _, _, _, _, e⟩ := v_il hm; exact FR.eq e
  case lload k => obtain ⟨_, _, _, _, _, e⟩ := v_jl hm; exact FR.eq e
  case lload_n k => obtain ⟨_, _, _, _, _, e⟩ := v_jl hm; exact FR.eq e
  case aload k => obtain ⟨_, _, _, _, _, _, _, e⟩ := v_al (b := 0) (base := 0) hm; exact FR.eq e
  case aload_n k => obtain ⟨_, _, _, _, _, _, _, e⟩ := v_al (b := 0) (base := 0) hm; exact FR.eq e
  case istore k => obtain ⟨_, _, _, _, _, _, _, e⟩ := v_is hm; exact FR.eq e
  case istore_n k => obtain ⟨_, _, _, _, _, _, _, e⟩ := v_is hm; exact FR.eq e
  case lstore k => obtain ⟨_, _, _, _, _, _, _, e⟩ := v_js hm; exact FR.eq e
  case lstore_n k => obtain ⟨_, _, _, _, _, _, _, e⟩ := v_js hm; exact FR.eq e
  case astore k => obtain ⟨_, _, _, _, _, _, _, e⟩ := v_as hm; exact FR.eq e
  case astore_n k => obtain ⟨_, _, _, _, _, _, _, e⟩ := v_as hm; exact FR.eq e
  case iinc k n => obtain ⟨_, _, _, _, _, e⟩ := v_inc hm; exact FR.eq e
  case dup => obtain ⟨_, _, _, _, _, _, _, e⟩ := v_dup hm; exact FR.eq e
  case dup2 => obtain ⟨_, _, _, _, _, _, _, _, e⟩ := v_dup2 hm; exact FR.eq e
  case pop => obtain ⟨_, _, _, _, _, _, _, e⟩ := v_pop hm; exact FR.eq e
  case pop2 => obtain ⟨_, _, _, _, _, _, _, e⟩ := v_pop2 hm; exact FR.eq e
  case iadd => obtain ⟨_, _, _, _, _, _, _, e⟩ := v_ii hm; exact FR.eq e
  case isub => obtain ⟨_, _, _, _, _, _, _, e⟩ := v_ii hm; exact FR.eq e
  case imul => obtain ⟨_, _, _, _, _, _, _, e⟩ := v_ii hm; exact FR.eq e
  case iand => obtain ⟨_, _, _, _, _, _, _, e⟩ := v_ii hm; exact FR.eq e
  case ior => obtain ⟨_, _, _, _, _, _, _, e⟩ := v_ii hm; exact FR.eq e
  case ixor => obtain ⟨_, _, _, _, _, _, _, e⟩ := v_ii hm; exact FR.eq e
  case ishl => obtain ⟨_, _, _, _, _, _, _, e⟩ := v_ii hm; exact FR.eq e
  case ishr => obtain ⟨_, _, _, _, _, _, _, e⟩ := v_ii hm; exact FR.eq e
  case iushr => obtain ⟨_, _, _, _, _, _, _, e⟩ := v_ii hm; exact FR.eq e
  case idiv => obtain ⟨_, _, _, _, _, _, _, _, e⟩ := v_id hm; exact FR.eq e
  case irem => obtain ⟨_, _, _, _, _, _, _, _, e⟩ := v_id hm; exact FR.eq e
  case ladd => obtain ⟨_, _, _, _, _, _, _, e⟩ := v_jj hm; exact FR.eq e
  case lsub => obtain ⟨_, _, _, _, _, _, _, e⟩ := v_jj hm; exact FR.eq e
  case lmul => obtain ⟨_, _, _, _, _, _, _, e⟩ := v_jj hm; exact FR.eq e
  case ldiv => obtain ⟨_, _, _, _, _, _, _, _, e⟩ := v_jd hm; exact FR.eq e
  case lrem => obtain ⟨_, _, _, _, _, _, _, _, e⟩ := v_jd hm; exact FR.eq e
  case ineg => obtain ⟨_, _, _, _, _, _, e⟩ := v_i1 hm; exact FR.eq e
  case i2l => obtain ⟨_, _, _, _, _, _, e⟩ := v_i1 hm; exact FR.eq e
  case i2b => obtain ⟨_, _, _, _, _, _, e⟩ := v_i1 hm; exact FR.eq e
  case i2s => obtain ⟨_, _, _, _, _, _, e⟩ := v_i1 hm; exact FR.eq e
  case lshl => obtain ⟨_, _, _, _, _, _, _, e⟩ := v_lshl hm; exact FR.eq e
  case lcmp => obtain ⟨_, _, _, _, _, _, _, e⟩ := v_lcmp hm; exact FR.eq e
  case ifCond c off => obtain ⟨_, _, _, e, _⟩ := v_if hm; exact FR.eq e
  case if_icmp c off => obtain ⟨_, _, _, _, e, _⟩ := v_icmp hm; exact FR.eq e
  case goto off => cases hm; exact FR.eq rfl
  case tableswitch d lo hi offs => exact w_sw hm
  case iaload => exact w_ald hm
  case baload => exact w_ald hm
  case iastore => exact w_ast (fun _ e => by cases e) hm
  case bastore =>
    have hb : bb = false := by simpa [okRow] using hok
    exact w_ast (fun e => by rw [hb] at e; cases e) hm
  case aaload => exact w_aald hm
  case aastore => exact w_aast hm
  case arraylength => exact w_len hm
  case newarray t =>
    cases t
    case int => exact w_newa hm
    case boolean => exact w_newa hm
    all_goals exact nomatch (show (none : Option MO) = some _ from hm)
  case anewarray k => exact w_newq hm
  case multianewarray k d => exact w_newm hm
  case new k => exact FR.nx hm (FR.app _ _)
  case getfield k => exact w_get hm
  case putfield k =>
    refine w_put (fun hin => ?_) hm
    have hb : bad.contains (m_n ops 0, m_n ops 1) = false := by simpa [okRow] using hok
    rw [List.contains_iff_mem.mpr hin] at hb
    cases hb
  case invokevirtual k => exact (n_cv hm).elim
  case invokestatic k =>
    simp only [mexec] at hm
    split at hm
    · exact w_cpy hm
    · obtain ⟨_, _, _, _, _, _, _, _, e⟩ := v_mm hm; exact FR.eq e
    · obtain ⟨_, _, _, _, _, _, _, _, e⟩ := v_mm hm; exact FR.eq e
    · obtain ⟨_, _, _, _, _, _, _, e⟩ := v_ma hm; exact FR.eq e
    · exact (n_cs hm).elim
  case invokespecial k =>
    simp only [mexec] at hm
    split at hm
    · exact w_obj hm
    · exact (n_ci hm).elim
  case ireturn => exact (n_ret hm).elim
  case lreturn => exact (n_lret hm).elim
  case areturn => exact (n_aret hm).elim
  case return_ => exact (n_vret hm).elim
  all_goals exact nomatch (show (none : Option MO) = some _ from hm)
end FRS
def okCall (ms : List Nat) (ins : Instr) (ops : List Int) : Bool := match ins with
  | .invokevirtual _ => ms.contains (m_n ops 0)
  | .invokestatic _ => (match m_n ops 0 with | 2 => true | 3 => true | 4 => true | 5 => true | _ => ms.contains (m_n ops 1))
  | .invokespecial _ => decide (m_n ops 0 = 2) || ms.contains (m_n ops 1)
  | _ => true
def noPut (ms : List Nat) (bad : List (Nat × Nat)) (bb : Bool) : Bool := ms.all (fun y => match m_tab[y]? with | some M => (mc M).all (fun r => okRow bad bb r.2.1 r.2.2.2 && okCall ms r.2.1 r.2.2.2) | none => false)
theorem q_cv {y n ci y2 : Nat} {st as rest : List Value} {h : MH} (hm : o_cv y n ci st h = some (.inr (.inl (y2, as, rest)))) : y2 = y := by
  unfold o_cv at hm
  split at hm
  · split at hm
    · have := (b_if hm).2
      cases this
      rfl
    · cases hm
  · cases hm
theorem q_cs {y n y2 : Nat} {st as rest : List Value} (hm : o_cs y n st = some (.inr (.inl (y2, as, rest)))) : y2 = y := by
  unfold o_cs at hm
  have := (b_if hm).2
  cases this
  rfl
theorem q_ci {y n y2 : Nat} {st as rest : List Value} (hm : o_ci y n st = some (.inr (.inl (y2, as, rest)))) : y2 = y := by
  unfold o_ci at hm
  split at hm
  · have := (b_if hm).2
    cases this
    rfl
  · cases hm
theorem call_in {ms : List Nat} {fl : Bool} {xs : List Int32} {ins : Instr} {ops : List Int} {i y : Nat} {L : ML} {st as rest : List Value} {h : MH} (hok : okCall ms ins ops = true) (hm : mexec fl xs ins ops i L st h = some (.inr (.inl (y, as, rest)))) : y ∈ ms := by
  cases ins
  case ireturn =>
    have hm : o_ret (m_n ops 0) st = some (.inr (.inl (y, as, rest))) := hm
    unfold o_ret at hm
    split at hm
    · have g := (b_if hm).2
      cases g
    · cases hm
  case lreturn =>
    have hm : o_lret st = some (.inr (.inl (y, as, rest))) := hm
    unfold o_lret at hm
    split at hm <;> cases hm
  case areturn =>
    have hm : o_aret st = some (.inr (.inl (y, as, rest))) := hm
    unfold o_aret at hm
    split at hm <;> cases hm
  case return_ =>
    have hm : o_vret st = some (.inr (.inl (y, as, rest))) := hm
    unfold o_vret at hm
    split at hm <;> cases hm
  case invokevirtual k =>
    rw [q_cv hm]
    exact List.contains_iff_mem.mp hok
  case invokestatic k =>
    simp only [mexec] at hm
    split at hm
    · exact (i_cpy hm).elim
    · exact (i_mm hm).elim
    · exact (i_mm hm).elim
    · exact (i_ma hm).elim
    · rename_i h2 h3 h4 h5
      rw [q_cs hm]
      simp only [okCall] at hok
      exact List.contains_iff_mem.mp hok
  case invokespecial k =>
    simp only [mexec] at hm
    split at hm
    · exact (i_obj hm).elim
    · rename_i h2
      rw [q_ci hm]
      simp only [okCall, h2, decide_false, Bool.false_or] at hok
      exact List.contains_iff_mem.mp hok
  case iload => exact (i_il hm).elim
  case iload_n => exact (i_il hm).elim
  case lload => exact (i_jl hm).elim
  case lload_n => exact (i_jl hm).elim
  case aload => exact (i_al hm).elim
  case aload_n => exact (i_al hm).elim
  case istore => exact (i_is hm).elim
  case istore_n => exact (i_is hm).elim
  case lstore => exact (i_js hm).elim
  case lstore_n => exact (i_js hm).elim
  case astore => exact (i_as hm).elim
  case astore_n => exact (i_as hm).elim
  case iinc => exact (i_inc hm).elim
  case dup => exact (i_dup hm).elim
  case dup2 => exact (i_dup2 hm).elim
  case pop => exact (i_pop hm).elim
  case pop2 => exact (i_pop2 hm).elim
  case ladd => exact (i_jj hm).elim
  case lsub => exact (i_jj hm).elim
  case lmul => exact (i_jj hm).elim
  case ldiv => exact (i_jd hm).elim
  case lrem => exact (i_jd hm).elim
  case idiv => exact (i_id hm).elim
  case irem => exact (i_id hm).elim
  case ineg => exact (i_i1 hm).elim
  case i2l => exact (i_i1 hm).elim
  case i2b => exact (i_i1 hm).elim
  case i2s => exact (i_i1 hm).elim
  case lshl => exact (i_lshl hm).elim
  case lcmp => exact (i_lcmp hm).elim
  case ifCond => exact (i_if hm).elim
  case if_icmp => exact (i_icmp hm).elim
  case tableswitch => exact (i_sw hm).elim
  case iaload => exact (i_ald hm).elim
  case baload => exact (i_ald hm).elim
  case iastore => exact (i_ast hm).elim
  case bastore => exact (i_ast hm).elim
  case aaload => exact (i_aald hm).elim
  case aastore => exact (i_aast hm).elim
  case arraylength => exact (i_len hm).elim
  case anewarray => exact (i_newq hm).elim
  case multianewarray => exact (i_newm hm).elim
  case new => exact (i_new hm).elim
  case getfield => exact (i_get hm).elim
  case putfield => exact (i_put hm).elim
  case iadd => exact (i_ii hm).elim
  case isub => exact (i_ii hm).elim
  case imul => exact (i_ii hm).elim
  case iand => exact (i_ii hm).elim
  case ior => exact (i_ii hm).elim
  case ixor => exact (i_ii hm).elim
  case ishl => exact (i_ii hm).elim
  case ishr => exact (i_ii hm).elim
  case iushr => exact (i_ii hm).elim
  case iconst => exact (i_nx hm).elim
  case bipush => exact (i_nx hm).elim
  case sipush => exact (i_nx hm).elim
  case ldc => exact (i_nx hm).elim
  case ldc_w => exact (i_nx hm).elim
  case ldc2_w => exact (i_nx hm).elim
  case lconst => exact (i_nx hm).elim
  case goto off => cases hm
  case newarray t =>
    cases t
    case int => exact (i_newa hm).elim
    case boolean => exact (i_newa hm).elim
    all_goals exact nomatch (show (none : Option MO) = some _ from hm)
  all_goals exact nomatch (show (none : Option MO) = some _ from hm)
theorem noPut_sp {ms : List Nat} {bad : List (Nat × Nat)} {bb : Bool} {y : Nat} {M : MM} (hn : noPut ms bad bb = true) (hy : y ∈ ms) (hM : m_tab[y]? = some M) {i : Nat} {row : MR} (hr : (mc M)[i]? = some row) : okRow bad bb row.2.1 row.2.2.2 = true ∧ okCall ms row.2.1 row.2.2.2 = true := by
  have q := List.all_eq_true.mp hn y hy
  rw [hM] at q
  exact b_and (List.all_eq_true.mp q row (List.mem_of_getElem? hr))
theorem mrun_fr {ms : List Nat} {bad : List (Nat × Nat)} {bb : Bool} (hn : noPut ms bad bb = true) (xs : List Int32) : ∀ (n : Nat) (y : Nat) (fl : Bool) (M : MM) (i : Nat) (L : ML) (st : List Value) (h : MH) (r : Option Value) (h1 : MH), y ∈ ms → m_tab[y]? = some M → mrun m_tab xs n fl M i L st h = some (r, h1) → FR bad bb h h1 := by
  intro n
  induction n with
  | zero => intro y fl M i L st h r h1 _ _ hm; cases hm
  | succ n ih =>
    intro y fl M i L st h r h1 hy hM hm
    rw [mrun_s] at hm
    unfold mbody at hm
    split at hm
    · cases hm
    · rename_i i2 L2 st2 h2 hs
      unfold mstep at hs
      split at hs
      · rename_i pc ins len ops hr
        exact (mexec_fr (noPut_sp hn hy hM hr).1 hs).tr (ih y _ _ _ _ _ _ _ _ hy hM hm)
      · cases hs
    · rename_i y2 as rest hs
      unfold mstep at hs
      split at hs
      · rename_i pc ins len ops hr
        have hy2 := call_in (noPut_sp hn hy hM hr).2 hs
        split at hm
        · cases hm
        · rename_i M2 hM2
          have hm := (b_if hm).2
          split at hm
          · cases hm
          · rename_i r2 h2 hc
            exact (ih y2 _ _ _ _ _ _ _ _ hy2 hM2 hc).tr (ih y _ _ _ _ _ _ _ _ hy hM hm)
      · cases hs
    · cases hm
      exact FR.eq rfl
theorem RP.fr {ms : List Nat} {bad : List (Nat × Nat)} {bb : Bool} {y : Nat} {M : MM} {i : Nat} {L : ML} {st : List Value} {h : MH} {P : Option Value → MH → Prop} (hn : noPut ms bad bb = true) (hy : y ∈ ms) (hM : m_tab[y]? = some M) (k : RP M i L st h P) : RP M i L st h (fun r h1 => P r h1 ∧ FR bad bb h h1) := by
  obtain ⟨r, h1, ⟨n, k1⟩, k2⟩ := k
  exact ⟨r, h1, ⟨n, k1⟩, k2, mrun_fr hn [] n y _ _ _ _ _ _ _ _ hy hM k1⟩
/-- a field that stays -/
theorem FR_fI {bad : List (Nat × Nat)} {bb : Bool} {h h1 : MH} {H : AH} {ci k a : Nat} {lo hi : Int} {fz : Bool} (f : FR bad bb h h1) (g : gH H h) (hf : a_fd H ci k a = some (.inr (lo, hi, fz))) (hk : (ci, k) ∈ bad) : fI h1 a k = fI h a k := by
  obtain ⟨vs, hx, hv, -, -⟩ := fI_sp g hf
  obtain ⟨ws, hy, e⟩ := f.1 a ci vs hx
  unfold fI
  rw [hx, hy]
  dsimp only
  rw [e k hk]
theorem FR.bl {bad : List (Nat × Nat)} {h h1 : MH} {H : AH} {n a : Nat} {lo hi : Int} {fz : Bool} (f : FR bad true h h1) (g : gH H h) (hf : H[a]? = some (.inl (1, n, lo, hi, fz))) : h1[a]? = h[a]? := by
  obtain ⟨x, hx, l, rfl, -⟩ := g.2 a _ hf
  rw [hx]
  exact f.2 rfl a _ hx
