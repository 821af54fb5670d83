/-! one step of the small machine is one instruction of the machine: the instructions that touch the heap -/
def zA (b base k0 z0 : Nat) (cs : Nat → ClassId) (D : va_G) (s : State) (h : MH) (H : Heap) (locs : List Loc) (cells slots : Nat) : Prop := va_P D vwCl (zW b base cs h) H ∧ va_S (fun q => base ≤ q) s.heap H locs ∧ h.length = k0 + cells ∧ zs h = z0 + slots
def zC (b base k0 : Nat) (cs : Nat → ClassId) (D : va_G) (scr : Cell) (xs : List Int32) (p : Program) (R : Room) (s : State) (m : MethodId) (args : Array Value) (meth : Method) (c : Code) (M : MM) : Prop :=
  p.tables.exec = Jvm.exec ∧ c.code = mb M ∧ c.maxLocals = mx M ∧ meth.sig.returnType = mt M ∧ s.vm.findClass (mn M).cls = some m.cls ∧ (∀ w ∈ W0, w.before args s = true) ∧ meth.locks = false ∧ ((mn M).name = "<init>" → meth.name = "<init>") ∧ zX cs D scr xs s ∧ mf M ≤ R.frames ∧ mw M ≤ R.locals ∧ s.heap.size = base + k0 ∧ b < base ∧ s.heap[b]? = some scr
def zK (p : Program) (l : Launch) (e : Env) (R : Room) (s : State) (m : MethodId) (args : Array Value) (below : List Frame) (meth : Method) (c : Code) (Q : State → Prop) (b base k0 z0 : Nat) (cs : Nat → ClassId) (D : va_G) (M : MM) (i1 : Nat) (L1 : ML) (st1 : List Value) (h1 : MH) : Prop :=
  ∀ (r1 : MR) (ls1 : Array Slot) (H1 : Heap) (locs1 : List Loc) (cells1 slots1 : Nat), (mc M)[i1]? = some r1 → zR b base (mx M) L1 ls1 → zA b base k0 z0 cs D s h1 H1 locs1 cells1 slots1 → W p l e R s m args below meth c H1 locs1 cells1 slots1 Q (F0 m r1.1 ls1 (st1.map (zt b base)))
section STP
variable {p : Program} {l : Launch} {e : Env} {R : Room} {s : State} {m : MethodId} {args : Array Value} {below : List Frame} {meth : Method} {c : Code} {Q : State → Prop} {b base k0 z0 : Nat} {cs : Nat → ClassId} {D : va_G} {scr : Cell} {xs : List Int32} {M : MM} {H : Heap} {locs : List Loc} {cells slots : Nat} {ls : Array Slot} {i i1 pc len : Nat} {L L1 : ML} {st st1 : List Value} {h h1 : MH}
theorem kn (hn : c_nx M i pc len = true) (kk : zK p l e R s m args below meth c Q b base k0 z0 cs D M (i + 1) L1 st1 h1) (rl : zR b base (mx M) L1 ls) (a : zA b base k0 z0 cs D s h1 H locs cells slots) : W p l e R s m args below meth c H locs cells slots Q (F0 m (pc + len) ls (st1.map (zt b base))) := by
  unfold c_nx at hn
  cases hr : (mc M)[i + 1]? with
  | none => rw [hr] at hn; cases hn
  | some r =>
    rw [hr] at hn
    have e1 : r.1 = pc + len := of_decide_eq_true hn
    have := kk r ls H locs cells slots hr rl a
    rw [e1] at this
    exact this
theorem kt {t : Nat} {off : Int} (hn : c_to M t pc off = true) (kk : zK p l e R s m args below meth c Q b base k0 z0 cs D M t L1 st1 h1) (rl : zR b base (mx M) L1 ls) (a : zA b base k0 z0 cs D s h1 H locs cells slots) : ∃ tgt : Nat, (pc : Int) + off = (tgt : Int) ∧ W p l e R s m args below meth c H locs cells slots Q (F0 m tgt ls (st1.map (zt b base))) := by
  unfold c_to at hn
  cases hr : (mc M)[t]? with
  | none => rw [hr] at hn; cases hn
  | some r =>
    rw [hr] at hn
    exact ⟨r.1, of_decide_eq_true hn, kk r ls H locs cells slots hr rl a⟩
theorem W_sz {g : JFrame} (k : H.size ≤ s.heap.size + cells → W p l e R s m args below meth c H locs cells slots Q g) : W p l e R s m args below meth c H locs cells slots Q g := by
  intro T hT X
  refine k ?_ T hT X
  have h3 := X.same.2.2.1
  rw [← hT]
  exact h3
theorem zA_size (hsz : s.heap.size = base + k0) (a : zA b base k0 z0 cs D s h H locs cells slots) (hs : H.size ≤ s.heap.size + cells) : H.size = base + h.length := by
  obtain ⟨hP, hS, hl, -⟩ := a
  have h1 := hS.1
  by_cases h0 : h.length = 0
  · omega
  · have hlt : h.length - 1 < h.length := by omega
    have := (hP _ _ (zW_get (b := b) (base := base) (cs := cs) (List.getElem?_eq_getElem hlt))).lt
    have h2 : base + (h.length - 1) < H.size := this
    omega
theorem zA_scr (C : zC b base k0 cs D scr xs p R s m args meth c M) (a : zA b base k0 z0 cs D s h H locs cells slots) : H[b]? = some scr := by
  obtain ⟨-, -, -, -, -, -, -, -, -, -, -, hsz, hbb, hscr⟩ := C
  rw [a.2.1.2.1 b (by omega) (by omega)]
  exact hscr
/-- a cell that came: it lies behind the others -/
theorem z_new {q : Nat} {E : va_E} {H1 : Heap} (hsz : s.heap.size = base + k0) (a : zA b base k0 z0 cs D s h H locs cells slots) (hP1 : va_P D vwCl (zW b base cs h ++ [(q, E)]) H1) (hD1 : va_D (fun q => base ≤ q) (zW b base cs h ++ [(q, E)])) (hs : H1.size ≤ s.heap.size + (cells + 1)) : q = base + h.length := by
  have hlast : (zW b base cs h ++ [(q, E)])[h.length]? = some (q, E) := by
    rw [List.getElem?_append_right (by rw [zW_len]; exact Nat.le_refl _), zW_len]
    simp
  have hq := (hP1 _ _ hlast).lt
  have hq : q < H1.size := hq
  have hb : base ≤ q := hD1.2 _ _ hlast
  have hl := a.2.2.1
  by_cases hlt : q < base + h.length
  · exfalso
    have hk : q - base < h.length := by omega
    have h2 : (zW b base cs h ++ [(q, E)])[q - base]? = some (base + (q - base), zE b base cs (h[q - base])) := by
      rw [List.getElem?_append_left (by rw [zW_len]; exact hk)]
      exact zW_get (List.getElem?_eq_getElem hk)
    have := hD1.1 _ _ _ _ h2 hlast (show base + (q - base) = q by omega)
    omega
  · omega
theorem s_iald {fl : Bool} (C : zC b base k0 cs D scr xs p R s m args meth c M) (hd : decode (mb M) pc = .ok (.iaload, 1)) (hn : c_nx M i pc 1 = true) (hm : o_ald fl xs 0 i L st h = some (.inl (i1, L1, st1, h1))) (rl : zR b base (mx M) L ls) (a : zA b base k0 z0 cs D s h H locs cells slots) (kk : zK p l e R s m args below meth c Q b base k0 z0 cs D M i1 L1 st1 h1) : W p l e R s m args below meth c H locs cells slots Q (F0 m pc ls (st.map (zt b base))) := by
  have hc := zA_scr C a
  obtain ⟨hx, hb, hml, hr, hown, hts, hlocks, hini, hX, hf, hw, hsz, hbb, hscr⟩ := C
  unfold o_ald at hm
  split at hm
  · split at hm
    · rename_i j q r o u l hq
      obtain ⟨g1, g2⟩ := b_if hm
      obtain ⟨hu, hj⟩ := b_and g1
      obtain ⟨rfl, rfl, rfl, rfl⟩ := nx_eq g2
      have hu : u = 0 := by simpa using hu
      subst hu
      exact va_iald hx hb hX.1 a.1 q 0 (zW_get hq) rfl (m_ok_in hj) hd (kn hn kk rl a)
    · cases hm
  · rename_i j q r
    obtain ⟨g1, g2⟩ := b_if hm
    obtain ⟨-, g1⟩ := b_and g1
    obtain ⟨hu, hj⟩ := b_and g1
    obtain ⟨rfl, rfl, rfl, rfl⟩ := nx_eq g2
    exact W.iald (v := .int (xs.getD j.toNatClampNeg 0)) hx hb hc hX.2.1.1 hX.2.1.2.1 (by rw [hX.2.1.2.2.1]; exact m_ok_in hj) (hX.2.1.2.2.2 _ (m_ok_lt hj)) rfl rfl hd (kn hn kk rl a)
  · cases hm
theorem s_zald {fl : Bool} (C : zC b base k0 cs D scr xs p R s m args meth c M) (hd : decode (mb M) pc = .ok (.baload, 1)) (hn : c_nx M i pc 1 = true) (hm : o_ald fl xs 1 i L st h = some (.inl (i1, L1, st1, h1))) (rl : zR b base (mx M) L ls) (a : zA b base k0 z0 cs D s h H locs cells slots) (kk : zK p l e R s m args below meth c Q b base k0 z0 cs D M i1 L1 st1 h1) : W p l e R s m args below meth c H locs cells slots Q (F0 m pc ls (st.map (zt b base))) := by
  obtain ⟨hx, hb, hml, hr, hown, hts, hlocks, hini, hX, hf, hw, hsz, hbb, hscr⟩ := C
  unfold o_ald at hm
  split at hm
  · split at hm
    · rename_i j q r o u l hq
      obtain ⟨g1, g2⟩ := b_if hm
      obtain ⟨hu, hj⟩ := b_and g1
      obtain ⟨rfl, rfl, rfl, rfl⟩ := nx_eq g2
      have hu : u = 1 := by simpa using hu
      subst hu
      exact va_zald hx hb hX.1 a.1 q 1 (zW_get hq) rfl (m_ok_in hj) hd (kn hn kk rl a)
    · cases hm
  · obtain ⟨g1, g2⟩ := b_if hm
    obtain ⟨-, g1⟩ := b_and g1
    obtain ⟨hu, -⟩ := b_and g1
    cases hu
  · cases hm
theorem z_fit1 {x : Int32} (h : m_fit 1 (.int x) = true) : x = 0 ∨ x = 1 := by
  simp only [m_fit] at h
  simpa using h
theorem s_iast (C : zC b base k0 cs D scr xs p R s m args meth c M) (hd : decode (mb M) pc = .ok (.iastore, 1)) (hn : c_nx M i pc 1 = true) (hm : o_ast 0 i L st h = some (.inl (i1, L1, st1, h1))) (rl : zR b base (mx M) L ls) (a : zA b base k0 z0 cs D s h H locs cells slots) (kk : zK p l e R s m args below meth c Q b base k0 z0 cs D M i1 L1 st1 h1) : W p l e R s m args below meth c H locs cells slots Q (F0 m pc ls (st.map (zt b base))) := by
  obtain ⟨hx, hb, hml, hr, hown, hts, hlocks, hini, hX, hf, hw, hsz, hbb, hscr⟩ := C
  unfold o_ast at hm
  split at hm
  · split at hm
    · rename_i x j q r o u l hq
      obtain ⟨g1, g2⟩ := b_if hm
      obtain ⟨hu, hj⟩ := b_and g1
      obtain ⟨hj, -⟩ := b_and hj
      obtain ⟨rfl, rfl, rfl, rfl⟩ := nx_eq g2
      have hu : u = 0 := by simpa using hu
      subst hu
      refine va_iast hx hb hX.1 a.1 (zW_D b base cs h) a.2.1 q 0 (zW_get hq) rfl (m_ok_in hj) hd (fun H1 locs1 hP _ hS => kn hn kk rl ⟨?_, hS, by rw [List.length_set]; exact a.2.2.1, (zs_set hq (by simp [szE])).trans a.2.2.2⟩)
      rw [← zW_set, zE_set _ _ _ _ (m_ok_lt hj)]
      exact hP
    · cases hm
  · cases hm
theorem s_zast (C : zC b base k0 cs D scr xs p R s m args meth c M) (hd : decode (mb M) pc = .ok (.bastore, 1)) (hn : c_nx M i pc 1 = true) (hm : o_ast 1 i L st h = some (.inl (i1, L1, st1, h1))) (rl : zR b base (mx M) L ls) (a : zA b base k0 z0 cs D s h H locs cells slots) (kk : zK p l e R s m args below meth c Q b base k0 z0 cs D M i1 L1 st1 h1) : W p l e R s m args below meth c H locs cells slots Q (F0 m pc ls (st.map (zt b base))) := by
  obtain ⟨hx, hb, hml, hr, hown, hts, hlocks, hini, hX, hf, hw, hsz, hbb, hscr⟩ := C
  unfold o_ast at hm
  split at hm
  · split at hm
    · rename_i x j q r o u l hq
      obtain ⟨g1, g2⟩ := b_if hm
      obtain ⟨hu, hj⟩ := b_and g1
      obtain ⟨hj, hz⟩ := b_and hj
      obtain ⟨rfl, rfl, rfl, rfl⟩ := nx_eq g2
      have hu : u = 1 := by simpa using hu
      subst hu
      have hv : vp_nar .boolean x = x := by rcases z_fit1 hz with rfl | rfl <;> rfl
      refine va_zast hx hb hX.1 a.1 (zW_D b base cs h) a.2.1 q 1 (zW_get hq) rfl (m_ok_in hj) hd (fun H1 locs1 hP _ hS => kn hn kk rl ⟨?_, hS, by rw [List.length_set]; exact a.2.2.1, (zs_set hq (by simp [szE])).trans a.2.2.2⟩)
      rw [hv] at hP
      rw [← zW_set, zE_set _ _ _ _ (m_ok_lt hj)]
      exact hP
    · cases hm
  · cases hm
theorem s_aald (C : zC b base k0 cs D scr xs p R s m args meth c M) (hd : decode (mb M) pc = .ok (.aaload, 1)) (hn : c_nx M i pc 1 = true) (hm : o_aald i L st h = some (.inl (i1, L1, st1, h1))) (rl : zR b base (mx M) L ls) (a : zA b base k0 z0 cs D s h H locs cells slots) (kk : zK p l e R s m args below meth c Q b base k0 z0 cs D M i1 L1 st1 h1) : W p l e R s m args below meth c H locs cells slots Q (F0 m pc ls (st.map (zt b base))) := by
  obtain ⟨hx, hb, hml, hr, hown, hts, hlocks, hini, hX, hf, hw, hsz, hbb, hscr⟩ := C
  unfold o_aald at hm
  split at hm
  · split at hm
    · rename_i j q r o u la hq
      obtain ⟨g1, g2⟩ := b_if hm
      obtain ⟨hu, hj⟩ := b_and g1
      obtain ⟨rfl, rfl, rfl, rfl⟩ := nx_eq g2
      have hin := m_ok_in hj
      have hlt := m_ok_lt hj
      have kk2 := kn (H := H) (locs := locs) (cells := cells) (slots := slots) hn kk rl a
      have ev : zt b base (m_rf (la.getD j.toNatClampNeg none)) = va_rf ((la.getD j.toNatClampNeg none).map (fun q => base + q)) := by
        cases la.getD j.toNatClampNeg none <;> rfl
      rw [List.map_cons, ev] at kk2
      have key : ∀ ty : FieldType, (tysOf cs)[u]? = some (cs u, ty) → ty.isReference = true → W p l e R s m args below meth c H locs cells slots Q (F0 m pc ls ((Value.int j :: .ref q :: r).map (zt b base))) := by
        intro ty ht hty
        exact W.aald (v := va_rf ((la.getD j.toNatClampNeg none).map (fun q => base + q))) (ty := ty) hx hb (a.1 q _ (zW_get hq)) ((hX.1.2 u _ ht).1 la.length (fun j => va_rf ((la.getD j none).map (fun q => base + q)))) hty (fun q => by cases q) (by show ¬ (_ < 0 ∨ (arrV _ _ _).slots.size ≤ _); rw [arrV_size]; exact hin) (by show (arrV _ _ _).slots[_]? = _; rw [arrV_read _ _ hlt]) rfl rfl hd kk2
      have hu : u = 2 ∨ u = 3 ∨ u = 4 := by simpa using hu
      rcases hu with rfl | rfl | rfl
      · exact key _ rfl rfl
      · exact key _ rfl rfl
      · exact key _ rfl rfl
    · cases hm
  · cases hm
theorem s_aast (C : zC b base k0 cs D scr xs p R s m args meth c M) (hd : decode (mb M) pc = .ok (.aastore, 1)) (hn : c_nx M i pc 1 = true) (hm : o_aast i L st h = some (.inl (i1, L1, st1, h1))) (rl : zR b base (mx M) L ls) (a : zA b base k0 z0 cs D s h H locs cells slots) (kk : zK p l e R s m args below meth c Q b base k0 z0 cs D M i1 L1 st1 h1) : W p l e R s m args below meth c H locs cells slots Q (F0 m pc ls (st.map (zt b base))) := by
  obtain ⟨hx, hb, hml, hr, hown, hts, hlocks, hini, hX, hf, hw, hsz, hbb, hscr⟩ := C
  unfold o_aast at hm
  split at hm
  · split at hm
    · rename_i v j q r o1 o2 u la ci fs hq hv
      obtain ⟨g1, g2⟩ := b_if hm
      obtain ⟨hu, hj⟩ := b_and g1
      obtain ⟨rfl, rfl, rfl, rfl⟩ := nx_eq g2
      have key : ∀ rr : vw_C, (tysOf cs)[u]? = some (cs u, .object rr.1) → vwCl[ci]? = some rr → W p l e R s m args below meth c H locs cells slots Q (F0 m pc ls ((Value.ref v :: .int j :: .ref q :: st1).map (zt b base))) := by
        intro rr ht hc
        refine va_astq hx hb hX.1 a.1 (zW_D b base cs h) a.2.1 q u v ci (zW_get hq) ht (zW_get hv) hc (m_ok_in hj) hd (fun H1 locs1 hP _ hS => kn hn kk rl ⟨?_, hS, by rw [List.length_set]; exact a.2.2.1, (zs_set (x := .inl (u, .inr la)) hq (by simp [szE])).trans a.2.2.2⟩)
        rw [← zW_set, zE_setq _ _ _ _ (m_ok_lt hj)]
        exact hP
      have hu : (u = 2 ∧ ci = 4) ∨ (u = 3 ∧ ci = 3) := by simpa using hu
      rcases hu with ⟨rfl, rfl⟩ | ⟨rfl, rfl⟩
      · exact key _ rfl rfl
      · exact key _ rfl rfl
    · cases hm
  · cases hm
theorem s_len {fl : Bool} (C : zC b base k0 cs D scr xs p R s m args meth c M) (hd : decode (mb M) pc = .ok (.arraylength, 1)) (hn : c_nx M i pc 1 = true) (hm : o_len fl xs i L st h = some (.inl (i1, L1, st1, h1))) (rl : zR b base (mx M) L ls) (a : zA b base k0 z0 cs D s h H locs cells slots) (kk : zK p l e R s m args below meth c Q b base k0 z0 cs D M i1 L1 st1 h1) : W p l e R s m args below meth c H locs cells slots Q (F0 m pc ls (st.map (zt b base))) := by
  have hc := zA_scr C a
  obtain ⟨hx, hb, hml, hr, hown, hts, hlocks, hini, hX, hf, hw, hsz, hbb, hscr⟩ := C
  unfold o_len at hm
  split at hm
  · split at hm
    · rename_i q r o l hq
      obtain ⟨rfl, rfl, rfl, rfl⟩ := nx_eq hm
      exact va_alen hx hb hX.1 a.1 q 0 (zW_get hq) rfl rfl hd (kn hn kk rl a)
    · cases hm
  · obtain ⟨rfl, rfl, rfl, rfl⟩ := nx_eq (b_if hm).2
    exact W.alen (n := Int32.ofNat xs.length) hx hb hc hX.2.1.1 (by rw [hX.2.1.2.2.1] <;> rfl) rfl rfl hd (kn hn kk rl a)
  · cases hm
theorem s_get {idx ci k pl : Nat} (C : zC b base k0 cs D scr xs p R s m args meth c M) (hd : decode (mb M) pc = .ok (.getfield idx, 3)) (hn : c_nx M i pc 3 = true) (hc : c_fld (mn M).cls idx ci k pl = true) (hm : o_get ci k i L st h = some (.inl (i1, L1, st1, h1))) (rl : zR b base (mx M) L ls) (a : zA b base k0 z0 cs D s h H locs cells slots) (kk : zK p l e R s m args below meth c Q b base k0 z0 cs D M i1 L1 st1 h1) : W p l e R s m args below meth c H locs cells slots Q (F0 m pc ls (st.map (zt b base))) := by
  obtain ⟨hx, hb, hml, hr, hown, hts, hlocks, hini, hX, hf, hw, hsz, hbb, hscr⟩ := C
  unfold c_fld at hc
  split at hc
  · rename_i q hq
    obtain ⟨hk, hlk⟩ := b_and hc
    have hk : k < q.2.2 := of_decide_eq_true hk
    unfold o_get at hm
    split at hm
    · split at hm
      · rename_i x r o ci2 fs hxx
        obtain ⟨g1, g2⟩ := b_if hm
        have g1 : ci2 = ci := by simpa using g1
        subst g1
        split at g2
        · rename_i v hv
          obtain ⟨rfl, rfl, rfl, rfl⟩ := nx_eq g2
          exact va_get (D := D) (ci := ci2) (v := zt b base v) (C := q.1) (T := q.2.1) (N := q.2.2) hx hb hts (cls_in ci2 q hq) hown hX.1 a.1 x (zW_get hxx) hq k hk (hts _ (c_w_in hlk rfl)) (fun _ h9 => h9) (by rw [List.getElem?_map, hv]; rfl) hd (kn hn kk rl a)
        · cases g2
      · cases hm
    · cases hm
  · cases hc
theorem z_tyv {tc : Nat} {ty : FieldType} {v : Value} (h : c_ty tc (some ty) = true) (hf : m_fit tc v = true) : narrow ty (zt b base v) = zt b base v ∧ fits ty (zt b base v) = true := by
  simp only [c_ty, Bool.or_eq_true, Bool.and_eq_true, decide_eq_true_eq] at h
  rcases h with ⟨rfl, rfl⟩ | ⟨rfl, rfl⟩ | ⟨rfl, hr⟩
  · cases v <;> first | exact ⟨rfl, rfl⟩ | cases hf
  · cases v with
    | int x => rcases z_fit1 hf with rfl | rfl <;> exact ⟨rfl, rfl⟩
    | _ => cases hf
  · cases v with
    | ref x => cases ty <;> first | exact ⟨rfl, rfl⟩ | cases hr
    | int x => simp [m_fit] at hf
    | _ => cases hf
theorem s_put {idx ci k pl tc : Nat} (C : zC b base k0 cs D scr xs p R s m args meth c M) (hd : decode (mb M) pc = .ok (.putfield idx, 3)) (hn : c_nx M i pc 3 = true) (hc : c_fld (mn M).cls idx ci k pl = true) (ht : c_ty tc (c_dsc ci k) = true) (hfn : c_fin M ci k = true) (hm : o_put ci k tc i L st h = some (.inl (i1, L1, st1, h1))) (rl : zR b base (mx M) L ls) (a : zA b base k0 z0 cs D s h H locs cells slots) (kk : zK p l e R s m args below meth c Q b base k0 z0 cs D M i1 L1 st1 h1) : W p l e R s m args below meth c H locs cells slots Q (F0 m pc ls (st.map (zt b base))) := by
  obtain ⟨hx, hb, hml, hr, hown, hts, hlocks, hini, hX, hf, hw, hsz, hbb, hscr⟩ := C
  unfold c_fld at hc
  split at hc
  · rename_i q hq
    obtain ⟨hk, hlk⟩ := b_and hc
    have hk : k < q.2.2 := of_decide_eq_true hk
    unfold c_dsc at ht
    unfold c_fin at hfn
    rw [hq] at ht hfn
    have hty := cls_ty ci q hq k hk
    have ht : c_ty tc (parseFieldDescriptor (q.2.1 k).2.2.1) = true := ht
    rw [hty] at ht
    unfold o_put at hm
    split at hm
    · split at hm
      · rename_i v x r o ci2 fs hxx
        obtain ⟨g1, g2⟩ := b_if hm
        obtain ⟨g1, g3⟩ := b_and g1
        obtain ⟨g3, g4⟩ := b_and g3
        have g4 : k < fs.length := of_decide_eq_true g4
        have g1 : ci2 = ci := by simpa using g1
        subst g1
        obtain ⟨rfl, rfl, rfl, rfl⟩ := nx_eq g2
        obtain ⟨v1, v2⟩ := z_tyv (b := b) (base := base) ht g3
        have fin : ∀ (H1 : Heap) (locs1 : List Loc), va_P D vwCl ((zW b base cs h).set x (base + x, .inr (ci2, (fs.map (zt b base)).set k (zt b base v)))) H1 → va_D (fun q => base ≤ q) ((zW b base cs h).set x (base + x, .inr (ci2, (fs.map (zt b base)).set k (zt b base v)))) → va_S (fun q => base ≤ q) s.heap H1 locs1 → W p l e R s m args below meth c H1 locs1 cells slots Q (F0 m (pc + 3) ls (st1.map (zt b base))) := by
          intro H1 locs1 hP _ hS
          refine kn hn kk rl ⟨?_, hS, by rw [List.length_set]; exact a.2.2.1, (zs_set hxx (by simp [szE])).trans a.2.2.2⟩
          rw [← zW_set]
          show va_P D vwCl ((zW b base cs h).set x (base + x, .inr (ci2, (fs.set k v).map (zt b base)))) H1
          rw [List.map_set]
          exact hP
        cases hfl : (q.2.1 k).2.2.2 with
        | false =>
          exact va_put (D := D) (ci := ci2) (v := zt b base v) (C := q.1) (T := q.2.1) (N := q.2.2) hx hb hts (cls_in ci2 q hq) (cls_t ci2) (cls_ty ci2 q hq) (cls_nm ci2 q hq) hown hX.1 a.1 (zW_D b base cs h) a.2.1 x (zW_get hxx) hq k hk (hts _ (c_w_in hlk rfl)) (fun _ h9 => h9) hfl hty v1 v2 (by rw [List.length_map]; exact g4) hd fin
        | true =>
          have hfn : (bif (q.2.1 k).2.2.2 then decide ((mn M).name = "<init>") && decide ((q.2.1 k).1 = (mn M).cls) else true) = true := hfn
          rw [hfl] at hfn
          obtain ⟨f1, f2⟩ := b_and hfn
          exact va_putF (D := D) (ci := ci2) (v := zt b base v) (C := q.1) (T := q.2.1) (N := q.2.2) hx hb hts (cls_in ci2 q hq) (cls_t ci2) (cls_ty ci2 q hq) (cls_nm ci2 q hq) hown hX.1 a.1 (zW_D b base cs h) a.2.1 x (zW_get hxx) hq k hk (hts _ (c_w_in hlk rfl)) (fun _ h9 => h9) hfl (hini (of_decide_eq_true f1)) (of_decide_eq_true f2) hty v1 v2 (by rw [List.length_map]; exact g4) hd fin
      · cases hm
    · cases hm
  · cases hc
end STP
