/-! what a run does not look at: runs over states that agree on some cells alone -/
section LOC
variable (R : Nat → Bool)
def rv (v : Value) : Bool := match v with
  | .ref a => R a
  | _ => true
def rgS (st : List Value) : Prop := ∀ v, v ∈ st → rv R v = true
def rgL (L : ML) : Prop := ∀ v, some v ∈ L → rv R v = true
def rgT (r : Option Value) : Prop := ∀ v, r = some v → rv R v = true
def eqR (s t : SG) : Prop := ∀ a j, R a = true → t a j = s a j
def rgO (o : UO) : Prop := match o with
  | .inl (_, L, st, _) => rgL R L ∧ rgS R st
  | .inr (.inl (y, as, rest)) => y ∈ msU ∧ rgS R as ∧ rgS R rest
  | .inr (.inr r) => rgT R r
def rgE (o p : UO) : Prop := match o, p with
  | .inl (i, L, st, s), .inl (j, K, u, t) => j = i ∧ K = L ∧ u = st ∧ eqR R s t
  | .inr x, .inr y => y = x
  | _, _ => False
def rgG (o : MO) : Prop := match o with
  | .inl (_, _, st, _) => rgS R st
  | .inr (.inl (_, as, rest)) => rgS R as ∧ rgS R rest
  | .inr (.inr r) => rgT R r
end LOC
section LOC2
variable {R : Nat → Bool} {i : Nat} {L : ML} {st : List Value} {s t : SG} {p : MO} {o : UO}
theorem rgS.tl {v : Value} {r : List Value} (h : rgS R (v :: r)) : rgS R r := fun w hw => h w (List.mem_cons_of_mem _ hw)
theorem rgS.hd {v : Value} {r : List Value} (h : rgS R (v :: r)) : rv R v = true := h v List.mem_cons_self
theorem rgS.cn {v : Value} {r : List Value} (h1 : rv R v = true) (h : rgS R r) : rgS R (v :: r) := fun w hw => by
  rcases List.mem_cons.mp hw with rfl | hw
  · exact h1
  · exact h w hw
theorem rgS.nil : rgS R [] := fun w hw => by cases hw
theorem rgT.non : rgT R none := fun w hw => by cases hw
theorem go_nx (h : rgS R st) (e : o_nx i [] st [] = some p) : rgG R p := by cases e; exact h
theorem go_ii {f : Int32 → Int32 → Int32} (hs : rgS R st) (e : o_ii f i [] st [] = some p) : rgG R p := by
  unfold o_ii at e
  split at e
  · exact go_nx (rgS.cn rfl hs.tl.tl) e
  · cases e
theorem go_id {f : Int32 → Int32 → Int32} (hs : rgS R st) (e : o_id f i [] st [] = some p) : rgG R p := by
  unfold o_id at e
  split at e
  · split at e
    · cases e
    · exact go_nx (rgS.cn rfl hs.tl.tl) e
  · cases e
theorem go_jj {f : Int64 → Int64 → Int64} (hs : rgS R st) (e : o_jj f i [] st [] = some p) : rgG R p := by
  unfold o_jj at e
  split at e
  · exact go_nx (rgS.cn rfl hs.tl.tl) e
  · cases e
theorem go_jd {f : Int64 → Int64 → Int64} (hs : rgS R st) (e : o_jd f i [] st [] = some p) : rgG R p := by
  unfold o_jd at e
  split at e
  · split at e
    · cases e
    · exact go_nx (rgS.cn rfl hs.tl.tl) e
  · cases e
theorem go_i1 {f : Int32 → Value} (hf : ∀ x, rv R (f x) = true) (hs : rgS R st) (e : o_i1 f i [] st [] = some p) : rgG R p := by
  unfold o_i1 at e
  split at e
  · exact go_nx (rgS.cn (hf _) hs.tl) e
  · cases e
theorem go_lshl (hs : rgS R st) (e : o_lshl i [] st [] = some p) : rgG R p := by
  unfold o_lshl at e
  split at e
  · exact go_nx (rgS.cn rfl hs.tl.tl) e
  · cases e
theorem go_lcmp (hs : rgS R st) (e : o_lcmp i [] st [] = some p) : rgG R p := by
  unfold o_lcmp at e
  split at e
  · exact go_nx (rgS.cn rfl hs.tl.tl) e
  · cases e
theorem go_dup (hs : rgS R st) (e : o_dup i [] st [] = some p) : rgG R p := by
  unfold o_dup at e
  split at e
  · split at e
    · exact go_nx (rgS.cn hs.hd hs) e
    · cases e
  · cases e
theorem go_dup2 (hs : rgS R st) (e : o_dup2 i [] st [] = some p) : rgG R p := by
  unfold o_dup2 at e
  split at e
  · split at e
    · exact go_nx (rgS.cn hs.hd (rgS.cn hs.tl.hd hs)) e
    · cases e
  · cases e
theorem go_pop (hs : rgS R st) (e : o_pop i [] st [] = some p) : rgG R p := by
  unfold o_pop at e
  split at e
  · split at e
    · exact go_nx hs.tl e
    · cases e
  · cases e
theorem go_pop2 (hs : rgS R st) (e : o_pop2 i [] st [] = some p) : rgG R p := by
  unfold o_pop2 at e
  split at e
  · split at e
    · exact go_nx hs.tl e
    · cases e
  · cases e
theorem go_if {c : Jvm.ClassFile.Cond} {k : Nat} (hs : rgS R st) (e : o_if c k i [] st [] = some p) : rgG R p := by
  unfold o_if at e
  split at e
  · rename_i x r
    cases hb : m_cmp c x 0
    · rw [hb] at e
      exact go_nx hs.tl e
    · rw [hb] at e
      cases e
      exact hs.tl
  · cases e
theorem go_icmp {c : Jvm.ClassFile.Cond} {k : Nat} (hs : rgS R st) (e : o_icmp c k i [] st [] = some p) : rgG R p := by
  unfold o_icmp at e
  split at e
  · rename_i y x r
    cases hb : m_cmp c x y
    · rw [hb] at e
      exact go_nx hs.tl.tl e
    · rw [hb] at e
      cases e
      exact hs.tl.tl
  · cases e
theorem go_sw {lo hi : Int} {ops : List Int} (hs : rgS R st) (e : o_sw lo hi ops [] st [] = some p) : rgG R p := by
  unfold o_sw at e
  split at e
  · split at e
    · cases e
      exact hs.tl
    · cases e
      exact hs.tl
  · cases e
theorem go_mm {f : Int32 → Int32 → Int32} (hs : rgS R st) (e : o_mm f i [] st [] = some p) : rgG R p := by
  unfold o_mm at e
  split at e
  · exact go_nx (rgS.cn rfl hs.tl.tl) (b_if e).2
  · cases e
theorem go_ma (hs : rgS R st) (e : o_ma i [] st [] = some p) : rgG R p := by
  unfold o_ma at e
  split at e
  · exact go_nx (rgS.cn rfl hs.tl) (b_if e).2
  · cases e
theorem rgS.tk (hs : rgS R st) (n : Nat) : rgS R (st.take n).reverse := fun v hv => hs v (List.mem_of_mem_take (List.mem_reverse.mp hv))
theorem rgS.dr (hs : rgS R st) (n : Nat) : rgS R (st.drop n) := fun v hv => hs v (List.mem_of_mem_drop hv)
theorem go_cs {y n : Nat} (hs : rgS R st) (e : o_cs y n st = some p) : rgG R p := by
  unfold o_cs at e
  have e := (b_if e).2
  cases e
  exact ⟨hs.tk n, hs.dr n⟩
theorem go_lret (e : o_lret st = some p) : rgG R p := by
  unfold o_lret at e
  split at e
  · cases e
    exact fun w hw => by cases hw; rfl
  · cases e
theorem go_aret (hs : rgS R st) (e : o_aret st = some p) : rgG R p := by
  unfold o_aret at e
  split at e
  · cases e
    exact fun w hw => by cases hw; exact hs.hd
  · cases e
theorem go_vret (e : o_vret st = some p) : rgG R p := by
  unfold o_vret at e
  split at e
  · cases e
    exact rgT.non
  · cases e
theorem uo_go {ins : Instr} {ops : List Int} (hc : okCall msU ins ops = true) (hl : rgL R L) (g : ∀ p, mexec false [] ins ops i [] st [] = some p → rgG R p) (e : (mexec false [] ins ops i [] st []).map (uo L s) = some o) : rgO R o := by
  cases hq : mexec false [] ins ops i [] st [] with
  | none => rw [hq] at e; cases e
  | some p =>
    rw [hq] at e
    have e : uo L s p = o := Option.some.inj e
    subst e
    have g := g p hq
    rcases p with ⟨j, K, u, h⟩ | ⟨y, as, rest⟩ | r
    · exact ⟨hl, g⟩
    · exact ⟨call_in hc hq, g.1, g.2⟩
    · exact g
theorem uo_eo {q : Option MO} (h : eqR R s t) (e : q.map (uo L s) = some o) : ∃ o1, q.map (uo L t) = some o1 ∧ rgE R o o1 := by
  cases q with
  | none => cases e
  | some p =>
    have e : uo L s p = o := Option.some.inj e
    subst e
    rcases p with ⟨j, K, u, g⟩ | x
    · exact ⟨_, rfl, rfl, rfl, rfl, h⟩
    · exact ⟨_, rfl, rfl⟩
theorem rgL.set (hl : rgL R L) (k : Nat) {v : Value} (hv : rv R v = true) : rgL R (L.set k (some v)) := fun w hw => by
  rcases List.mem_or_eq_of_mem_set hw with h | h
  · exact hl w h
  · cases h
    exact hv
theorem rgL.at (hl : rgL R L) {k : Nat} {v : Value} (h : L[k]? = some (some v)) : rv R v = true := hl v (List.mem_of_getElem? h)
theorem ro_ild {k : Nat} (hl : rgL R L) (hs : rgS R st) (e : uy_ild k i L st s = some o) : rgO R o := by
  unfold uy_ild at e
  split at e
  · rename_i v hv
    cases e
    exact ⟨hl, rgS.cn (hl.at hv) hs⟩
  · cases e
theorem ro_ist {k : Nat} (hl : rgL R L) (hs : rgS R st) (e : uy_ist k i L st s = some o) : rgO R o := by
  unfold uy_ist at e
  split at e
  · cases e
    exact ⟨hl.set k hs.hd, hs.tl⟩
  · cases e
theorem ro_inc {k : Nat} {n : Int} (hl : rgL R L) (hs : rgS R st) (e : uy_inc k n i L st s = some o) : rgO R o := by
  unfold uy_inc at e
  split at e
  · cases e
    exact ⟨hl.set k rfl, hs⟩
  · cases e
theorem ue_r {ins : Instr} {ops : List Int} (hok : okU ins ops = true) (hc : okCall msU ins ops = true) (hl : rgL R L) (hs : rgS R st) (hg : ∀ a r d, st = .ref a :: r → (∃ k, ins = .getfield k) → ufd (m_n ops 0) (m_n ops 1) = some d → R (a + d) = true) (ha : ∀ j a r, st = .int j :: .ref a :: r → ins = .aaload → R (uar a j.toNatClampNeg) = true) (e : uexec ins ops i L st s = some o) : rgO R o := by
  cases ins
  case iconst n => exact uo_go hc hl (fun p q => go_nx (rgS.cn rfl hs) q) e
  case bipush n => exact uo_go hc hl (fun p q => go_nx (rgS.cn rfl hs) q) e
  case sipush n => exact uo_go hc hl (fun p q => go_nx (rgS.cn rfl hs) q) e
  case ldc n => exact uo_go hc hl (fun p q => go_nx (rgS.cn rfl hs) q) e
  case ldc_w n => exact uo_go hc hl (fun p q => go_nx (rgS.cn rfl hs) q) e
  case ldc2_w n => exact uo_go hc hl (fun p q => go_nx (rgS.cn rfl hs) q) e
  case lconst n => exact uo_go hc hl (fun p q => go_nx (rgS.cn rfl hs) q) e
  case iload k => exact ro_ild hl hs e
  case iload_n k => exact ro_ild hl hs e
  case lload k => exact ro_ild hl hs e
  case lload_n k => exact ro_ild hl hs e
  case aload k => exact ro_ild hl hs e
  case aload_n k => exact ro_ild hl hs e
  case istore k => exact ro_ist hl hs e
  case istore_n k => exact ro_ist hl hs e
  case lstore k => exact ro_ist hl hs e
  case lstore_n k => exact ro_ist hl hs e
  case astore k => exact ro_ist hl hs e
  case astore_n k => exact ro_ist hl hs e
  case iinc k n => exact ro_inc hl hs e
  case dup => exact uo_go hc hl (fun p q => go_dup hs q) e
  case dup2 => exact uo_go hc hl (fun p q => go_dup2 hs q) e
  case pop => exact uo_go hc hl (fun p q => go_pop hs q) e
  case pop2 => exact uo_go hc hl (fun p q => go_pop2 hs q) e
  case iadd => exact uo_go hc hl (fun p q => go_ii hs q) e
  case isub => exact uo_go hc hl (fun p q => go_ii hs q) e
  case imul => exact uo_go hc hl (fun p q => go_ii hs q) e
  case iand => exact uo_go hc hl (fun p q => go_ii hs q) e
  case ior => exact uo_go hc hl (fun p q => go_ii hs q) e
  case ixor => exact uo_go hc hl (fun p q => go_ii hs q) e
  case ishl => exact uo_go hc hl (fun p q => go_ii hs q) e
  case ishr => exact uo_go hc hl (fun p q => go_ii hs q) e
  case iushr => exact uo_go hc hl (fun p q => go_ii hs q) e
  case idiv => exact uo_go hc hl (fun p q => go_id hs q) e
  case irem => exact uo_go hc hl (fun p q => go_id hs q) e
  case ineg => exact uo_go hc hl (fun p q => go_i1 (fun _ => rfl) hs q) e
  case i2l => exact uo_go hc hl (fun p q => go_i1 (fun _ => rfl) hs q) e
  case i2b => exact uo_go hc hl (fun p q => go_i1 (fun _ => rfl) hs q) e
  case i2s => exact uo_go hc hl (fun p q => go_i1 (fun _ => rfl) hs q) e
  case ladd => exact uo_go hc hl (fun p q => go_jj hs q) e
  case lsub => exact uo_go hc hl (fun p q => go_jj hs q) e
  case lmul => exact uo_go hc hl (fun p q => go_jj hs q) e
  case ldiv => exact uo_go hc hl (fun p q => go_jd hs q) e
  case lrem => exact uo_go hc hl (fun p q => go_jd hs q) e
  case lshl => exact uo_go hc hl (fun p q => go_lshl hs q) e
  case lcmp => exact uo_go hc hl (fun p q => go_lcmp hs q) e
  case ifCond c off => exact uo_go hc hl (fun p q => go_if hs q) e
  case if_icmp c off => exact uo_go hc hl (fun p q => go_icmp hs q) e
  case goto off =>
    refine uo_go (ins := .goto off) (ops := ops) (i := i) (st := st) hc hl (fun p q => ?_) e
    have q : some (.inl (m_n ops 0, [], st, [])) = some p := q
    cases q
    exact hs
  case tableswitch d lo hi offs => exact uo_go hc hl (fun p q => go_sw hs q) e
  case iaload =>
    have e : uy_ald i L st s = some o := e
    unfold uy_ald at e
    split at e
    · cases e
      exact ⟨hl, rgS.cn rfl hs.tl.tl⟩
    · cases e
  case baload =>
    have e : uy_ald i L st s = some o := e
    unfold uy_ald at e
    split at e
    · cases e
      exact ⟨hl, rgS.cn rfl hs.tl.tl⟩
    · cases e
  case iastore =>
    have e : uy_ast i L st s = some o := e
    unfold uy_ast at e
    split at e
    · cases e
      exact ⟨hl, hs.tl.tl.tl⟩
    · cases e
  case bastore =>
    have e : uy_ast i L st s = some o := e
    unfold uy_ast at e
    split at e
    · cases e
      exact ⟨hl, hs.tl.tl.tl⟩
    · cases e
  case aaload =>
    have e : uy_aald i L st s = some o := e
    unfold uy_aald at e
    split at e
    · rename_i j a r _
      cases e
      exact ⟨hl, rgS.cn (ha j a r rfl rfl) hs.tl.tl⟩
    · cases e
  case arraylength =>
    have e : uy_len i L st s = some o := e
    unfold uy_len at e
    split at e
    · cases e
      exact ⟨hl, rgS.cn rfl hs.tl⟩
    · cases e
  case getfield k =>
    have e : uy_get (m_n ops 0) (m_n ops 1) i L st s = some o := e
    unfold uy_get at e
    split at e
    · rename_i a r _
      split at e
      · rename_i d hd
        cases e
        exact ⟨hl, rgS.cn (hg a r d rfl ⟨k, rfl⟩ hd) hs.tl⟩
      · cases e
        exact ⟨hl, rgS.cn rfl hs.tl⟩
    · cases e
  case putfield k =>
    have e : uy_put (m_n ops 1) i L st s = some o := e
    unfold uy_put at e
    split at e
    · cases e
      exact ⟨hl, hs.tl.tl⟩
    · cases e
  case invokevirtual k =>
    have e : uy_cv (m_n ops 0) (m_n ops 1) st = some o := e
    unfold uy_cv at e
    split at e
    · rename_i a as he
      cases e
      refine ⟨List.contains_iff_mem.mp hc, ?_, hs.dr _⟩
      rw [← he]
      exact hs.tk _
    · cases e
  case invokestatic k =>
    have e : (if m_n ops 0 = 2 then uy_cpy i L st s else (mexec false [] (.invokestatic k) ops i [] st []).map (uo L s)) = some o := e
    by_cases q : m_n ops 0 = 2
    · rw [if_pos q] at e
      unfold uy_cpy at e
      split at e
      · cases e
        exact ⟨hl, hs.tl.tl.tl.tl.tl⟩
      · cases e
    · rw [if_neg q] at e
      refine uo_go hc hl (fun p hp => ?_) e
      simp only [mexec] at hp
      split at hp
      · exact absurd (by assumption) q
      · exact go_mm hs hp
      · exact go_mm hs hp
      · exact go_ma hs hp
      · exact go_cs hs hp
  case ireturn =>
    have e : uy_ret st = some o := e
    unfold uy_ret at e
    split at e
    · cases e
      exact fun w hw => by cases hw; exact hs.hd
    · cases e
  case lreturn => exact uo_go hc hl (fun p q => go_lret q) e
  case areturn => exact uo_go hc hl (fun p q => go_aret hs q) e
  case return_ => exact uo_go hc hl (fun p q => go_vret q) e
  case aastore => cases hok
  case newarray t => cases hok
  case anewarray k => cases hok
  case multianewarray k d => cases hok
  case new k => cases hok
  case invokespecial k => cases hok
  all_goals exact nomatch (show (none : Option UO) = some _ from e)
theorem eqR.us {s t : SG} (h : eqR R s t) (a j : Nat) (x : Int32) : eqR R (uset s a j x) (uset t a j x) := fun b k hb => by
  unfold uset
  by_cases e : b = a ∧ k = j
  · rw [if_pos e, if_pos e]
  · rw [if_neg e, if_neg e]
    exact h b k hb
theorem eqR.mv {s t : SG} (h : eqR R s t) {a0 : Nat} (h0 : R a0 = true) (i a1 j n : Nat) : eqR R (mvs s a0 i a1 j n) (mvs t a0 i a1 j n) := fun b k hb => by
  unfold mvs
  by_cases e : b = a1 ∧ j ≤ k ∧ k < j + n
  · rw [if_pos e, if_pos e]
    exact h _ _ h0
  · rw [if_neg e, if_neg e]
    exact h b k hb
theorem eo_ild {k : Nat} (h : eqR R s t) (e : uy_ild k i L st s = some o) : ∃ o1, uy_ild k i L st t = some o1 ∧ rgE R o o1 := by
  unfold uy_ild at e ⊢
  split at e
  · cases e
    exact ⟨_, rfl, rfl, rfl, rfl, h⟩
  · cases e
theorem eo_ist {k : Nat} (h : eqR R s t) (e : uy_ist k i L st s = some o) : ∃ o1, uy_ist k i L st t = some o1 ∧ rgE R o o1 := by
  unfold uy_ist at e ⊢
  split at e
  · cases e
    exact ⟨_, rfl, rfl, rfl, rfl, h⟩
  · cases e
theorem eo_inc {k : Nat} {n : Int} (h : eqR R s t) (e : uy_inc k n i L st s = some o) : ∃ o1, uy_inc k n i L st t = some o1 ∧ rgE R o o1 := by
  unfold uy_inc at e ⊢
  split at e
  · cases e
    exact ⟨_, rfl, rfl, rfl, rfl, h⟩
  · cases e
theorem eo_ald (hs : rgS R st) (h : eqR R s t) (e : uy_ald i L st s = some o) : ∃ o1, uy_ald i L st t = some o1 ∧ rgE R o o1 := by
  unfold uy_ald at e ⊢
  split at e
  · rename_i j a r
    cases e
    refine ⟨_, rfl, rfl, rfl, ?_, h⟩
    rw [h a _ hs.tl.hd]
  · cases e
theorem eo_ast (h : eqR R s t) (e : uy_ast i L st s = some o) : ∃ o1, uy_ast i L st t = some o1 ∧ rgE R o o1 := by
  unfold uy_ast at e ⊢
  split at e
  · cases e
    exact ⟨_, rfl, rfl, rfl, rfl, h.us _ _ _⟩
  · cases e
def usp (ins : Instr) : Bool := match ins with
  | .getfield _ => true
  | .putfield _ => true
  | .iaload => true
  | .baload => true
  | .iastore => true
  | .bastore => true
  | .aaload => true
  | .arraylength => true
  | .invokevirtual _ => true
  | .iload _ => true
  | .iload_n _ => true
  | .lload _ => true
  | .lload_n _ => true
  | .aload _ => true
  | .aload_n _ => true
  | .istore _ => true
  | .istore_n _ => true
  | .lstore _ => true
  | .lstore_n _ => true
  | .astore _ => true
  | .astore_n _ => true
  | .iinc _ _ => true
  | .ireturn => true
  | .invokestatic _ => true
  | _ => false
theorem usp_x (ins : Instr) (ops : List Int) (i : Nat) (st : List Value) : usp ins = true ∨ ∀ (L : ML) (s : SG), uexec ins ops i L st s = (mexec false [] ins ops i [] st []).map (uo L s) := by
  cases ins <;> first | exact Or.inl rfl | exact Or.inr (fun _ _ => rfl)
theorem ue_c {ins : Instr} {ops : List Int} (hs : rgS R st) (h : eqR R s t) (e : uexec ins ops i L st s = some o) : ∃ o1, uexec ins ops i L st t = some o1 ∧ rgE R o o1 := by
  rcases usp_x ins ops i st with hx | hx
  case inr =>
    rw [hx] at e ⊢
    exact uo_eo h e
  cases ins
  case iload k => exact eo_ild h e
  case iload_n k => exact eo_ild h e
  case lload k => exact eo_ild h e
  case lload_n k => exact eo_ild h e
  case aload k => exact eo_ild h e
  case aload_n k => exact eo_ild h e
  case istore k => exact eo_ist h e
  case istore_n k => exact eo_ist h e
  case lstore k => exact eo_ist h e
  case lstore_n k => exact eo_ist h e
  case astore k => exact eo_ist h e
  case astore_n k => exact eo_ist h e
  case iinc k n => exact eo_inc h e
  case iaload => exact eo_ald hs h e
  case baload => exact eo_ald hs h e
  case iastore => exact eo_ast h e
  case bastore => exact eo_ast h e
  case aaload =>
    have e : uy_aald i L st s = some o := e
    show ∃ o1, uy_aald i L st t = some o1 ∧ _
    unfold uy_aald at e ⊢
    split at e
    · cases e
      exact ⟨_, rfl, rfl, rfl, rfl, h⟩
    · cases e
  case arraylength =>
    have e : uy_len i L st s = some o := e
    show ∃ o1, uy_len i L st t = some o1 ∧ _
    unfold uy_len at e ⊢
    split at e
    · cases e
      exact ⟨_, rfl, rfl, rfl, rfl, h⟩
    · cases e
  case getfield k =>
    have e : uy_get (m_n ops 0) (m_n ops 1) i L st s = some o := e
    show ∃ o1, uy_get (m_n ops 0) (m_n ops 1) i L st t = some o1 ∧ _
    unfold uy_get at e ⊢
    split at e
    · rename_i a r
      cases hd : ufd (m_n ops 0) (m_n ops 1) with
      | some d =>
        rw [hd] at e
        cases e
        exact ⟨_, rfl, rfl, rfl, rfl, h⟩
      | none =>
        rw [hd] at e
        cases e
        refine ⟨_, rfl, rfl, rfl, ?_, h⟩
        rw [h _ _ hs.hd]
    · cases e
  case putfield k =>
    have e : uy_put (m_n ops 1) i L st s = some o := e
    show ∃ o1, uy_put (m_n ops 1) i L st t = some o1 ∧ _
    unfold uy_put at e ⊢
    split at e
    · cases e
      exact ⟨_, rfl, rfl, rfl, rfl, h.us _ _ _⟩
    · cases e
  case invokevirtual k =>
    have e : uy_cv (m_n ops 0) (m_n ops 1) st = some o := e
    show ∃ o1, uy_cv (m_n ops 0) (m_n ops 1) st = some o1 ∧ _
    refine ⟨o, e, ?_⟩
    unfold uy_cv at e
    split at e
    · cases e
      rfl
    · cases e
  case ireturn =>
    have e : uy_ret st = some o := e
    show ∃ o1, uy_ret st = some o1 ∧ _
    refine ⟨o, e, ?_⟩
    unfold uy_ret at e
    split at e
    · cases e
      rfl
    · cases e
  case invokestatic k =>
    have e : (if m_n ops 0 = 2 then uy_cpy i L st s else (mexec false [] (.invokestatic k) ops i [] st []).map (uo L s)) = some o := e
    show ∃ o1, (if m_n ops 0 = 2 then uy_cpy i L st t else (mexec false [] (.invokestatic k) ops i [] st []).map (uo L t)) = some o1 ∧ _
    by_cases q : m_n ops 0 = 2
    · rw [if_pos q] at e ⊢
      unfold uy_cpy at e ⊢
      split at e
      · cases e
        exact ⟨_, rfl, rfl, rfl, rfl, h.mv hs.tl.tl.tl.tl.hd _ _ _ _⟩
      · cases e
    · rw [if_neg q] at e ⊢
      exact uo_eo h e
  all_goals cases hx
theorem entL_in {v : Value} : ∀ as : List Value, some v ∈ entL as → v ∈ as
  | [], h => by cases h
  | w :: as, h => by
    have h : some v ∈ (if w.category = 2 then some w :: none :: entL as else some w :: entL as) := h
    split at h
    · rcases List.mem_cons.mp h with h | h
      · cases h
        exact List.mem_cons_self
      · rcases List.mem_cons.mp h with h | h
        · cases h
        · exact List.mem_cons_of_mem _ (entL_in as h)
    · rcases List.mem_cons.mp h with h | h
      · cases h
        exact List.mem_cons_self
      · exact List.mem_cons_of_mem _ (entL_in as h)
theorem rgL.ent {as : List Value} (h : rgS R as) (n : Nat) : rgL R (m_ent n as) := fun v hv => by
  rcases List.mem_append.mp hv with hv | hv
  · exact h v (entL_in as hv)
  · exact absurd (List.eq_of_mem_replicate hv) (by intro q; cases q)
theorem rgS.ret {r : Option Value} {rest : List Value} (h : rgT R r) (hs : rgS R rest) : rgS R (r.toList ++ rest) := fun v hv => by
  rcases List.mem_append.mp hv with hv | hv
  · cases r with
    | none => cases hv
    | some w =>
      rcases List.mem_cons.mp hv with rfl | hv
      · exact h _ rfl
      · cases hv
  · exact hs v hv
end LOC2
