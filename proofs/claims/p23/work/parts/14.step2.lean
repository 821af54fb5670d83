/-! the instructions that make cells; System.arraycopy -/
theorem ac_int : (.arrayClass .int : Jvm.Cond) ∈ W0 := W0_mem (List.mem_of_getElem? (i := 118) (by decide +kernel)) rfl
theorem ac_bool : (.arrayClass .boolean : Jvm.Cond) ∈ W0 := W0_mem (List.mem_of_getElem? (i := 860) (by decide +kernel)) rfl
theorem rep_0 (N j : Nat) : (List.replicate N (0 : Int32)).getD j 0 = 0 := by
  rw [List.getD_eq_getElem?_getD, List.getElem?_replicate]
  split <;> rfl
theorem rep_n (N j : Nat) : (List.replicate N (none : Option Nat)).getD j none = none := by
  rw [List.getD_eq_getElem?_getD, List.getElem?_replicate]
  split <;> rfl
section STP
variable {p : Program} {l : Launch} {e : Env} {R : Room} {s : State} {m : MethodId} {args : Array Value} {below : List Frame} {meth : Method} {c : Code} {Q : State → Prop} {b base k0 z0 : Nat} {cs : Nat → ClassId} {D : va_G} {scr : Cell} {xs : List Int32} {M : MM} {H : Heap} {locs : List Loc} {cells slots : Nat} {ls : Array Slot} {i i1 pc len : Nat} {L L1 : ML} {st st1 : List Value} {h h1 : MH}
theorem z_cls {t : Nat} {ty : FieldType} {cA : ClassId} (hK : va_K D vwCl (tysOf cs) s) (ht : (tysOf cs)[t]? = some (cs t, ty)) (hK1 : va_K D vwCl (tysOf cs ++ [(cA, ty)]) s) : cA = cs t := by
  have h1 := (hK.2 t _ ht).2
  have h2 := (hK1.2 5 (cA, ty) rfl).2
  cases ty with
  | object C =>
    obtain ⟨_, _, _, _, _, e1⟩ := h1
    obtain ⟨_, _, _, _, _, e2⟩ := h2
    exact Option.some.inj (e2.symm.trans e1)
  | _ => exact Option.some.inj (Eq.trans (Eq.symm h2) h1)
theorem s_newa {t : Nat} {ay : ArrayType} {ty : FieldType} (C : zC b base k0 cs D scr xs p R s m args meth c M) (hty : newarray.typeOf ay = ty) (hac : (.arrayClass ty : Jvm.Cond) ∈ W0) (ht : (tysOf cs)[t]? = some (cs t, ty)) (hdv : defaultValue ty = .int 0) (hcb : componentBytes ty ≤ 4) (hd : decode (mb M) pc = .ok (.newarray ay, 2)) (hn : c_nx M i pc 2 = true) (hm : o_newa t i L st h = some (.inl (i1, L1, st1, h1))) (hR1 : h1.length ≤ k0 + R.cells) (hR2 : zs h1 ≤ z0 + R.slots) (rl : zR b base (mx M) L ls) (a : zA b base k0 z0 cs D s h H locs cells slots) (kk : zK p l e R s m args below meth c Q b base k0 z0 cs D M i1 L1 st1 h1) : W p l e R s m args below meth c H locs cells slots Q (F0 m pc ls (st.map (zt b base))) := by
  obtain ⟨hx, hb, hml, hr, hown, hts, hlocks, hini, hX, hf, hw, hsz, hbb, hscr⟩ := C
  unfold o_newa at hm
  split at hm
  · rename_i n r
    obtain ⟨g1, g2⟩ := b_if hm
    obtain ⟨hn0, hnb⟩ := b_and g1
    have hn0 : ¬ n < 0 := by simpa using hn0
    have hnb : n.toNatClampNeg * 4 ≤ 536870912 := of_decide_eq_true hnb
    obtain ⟨rfl, rfl, rfl, rfl⟩ := nx_eq g2
    have hl := a.2.2.1
    have hz := a.2.2.2
    have e1 : zs (h ++ [.inl (t, .inl (List.replicate n.toNatClampNeg 0))]) = zs h + n.toNatClampNeg := by rw [zs_app]; simp [zs, szE]
    rw [List.length_append, List.length_singleton] at hR1
    rw [e1] at hR2
    subst hty
    refine va_newa (atype := ay) hx hb (hts _ hac) rfl hX.1 a.1 (zW_D b base cs h) a.2.1 (fun q hq => by omega) (n := n) (N' := n.toNatClampNeg) (a0 := ((List.replicate n.toNatClampNeg (0 : Int32)).length, .inl (fun j => (List.replicate n.toNatClampNeg (0 : Int32)).getD j 0))) (fun cA => ?_) hn0 rfl (Nat.le_trans (Nat.mul_le_mul_left _ hcb) hnb) (by omega) (by omega) hd (fun q cA H1 hK1 hP1 hD1 hS1 => ?_)
    · rw [vp_cell_i, List.length_replicate, hdv]
      exact congrArg (arrV cA _) (funext fun j => by rw [rep_0])
    · refine W_sz (fun hs => ?_)
      have eq := z_new hsz a hP1 hD1 hs
      have ec := z_cls hX.1 ht hK1
      subst eq
      subst ec
      refine kn hn kk rl ⟨?_, hS1, by rw [List.length_append, List.length_singleton]; omega, by rw [e1]; omega⟩
      rw [← zW_app]
      exact hP1
  · cases hm
theorem s_newq {t idx pl : Nat} {N : String} (C : zC b base k0 cs D scr xs p R s m args meth c M) (ht : (tysOf cs)[t]? = some (cs t, .object N)) (hao : va_AO N s) (hlk : c_w pl (.classLink (mn M).cls idx N) = true) (hd : decode (mb M) pc = .ok (.anewarray idx, 3)) (hn : c_nx M i pc 3 = true) (hm : o_newq t i L st h = some (.inl (i1, L1, st1, h1))) (hR1 : h1.length ≤ k0 + R.cells) (hR2 : zs h1 ≤ z0 + R.slots) (rl : zR b base (mx M) L ls) (a : zA b base k0 z0 cs D s h H locs cells slots) (kk : zK p l e R s m args below meth c Q b base k0 z0 cs D M i1 L1 st1 h1) : W p l e R s m args below meth c H locs cells slots Q (F0 m pc ls (st.map (zt b base))) := by
  obtain ⟨hx, hb, hml, hr, hown, hts, hlocks, hini, hX, hf, hw, hsz, hbb, hscr⟩ := C
  unfold o_newq at hm
  split at hm
  · rename_i n r
    obtain ⟨g1, g2⟩ := b_if hm
    obtain ⟨hn0, hnb⟩ := b_and g1
    have hn0 : ¬ n < 0 := by simpa using hn0
    have hnb : n.toNatClampNeg * 4 ≤ 536870912 := of_decide_eq_true hnb
    obtain ⟨rfl, rfl, rfl, rfl⟩ := nx_eq g2
    have hl := a.2.2.1
    have hz := a.2.2.2
    have e1 : zs (h ++ [.inl (t, .inr (List.replicate n.toNatClampNeg none))]) = zs h + n.toNatClampNeg := by rw [zs_app]; simp [zs, szE]
    rw [List.length_append, List.length_singleton] at hR1
    rw [e1] at hR2
    refine va_newq hx hb hown (hts _ (c_w_in hlk rfl)) hao hX.1 a.1 (zW_D b base cs h) a.2.1 (fun q hq => by omega) (n := n) (N' := n.toNatClampNeg) hn0 rfl hnb (by omega) (by omega) hd (fun q cA H1 hK1 hP1 hD1 hS1 => ?_)
    refine W_sz (fun hs => ?_)
    have eq := z_new hsz a hP1 hD1 hs
    have ec := z_cls hX.1 ht hK1
    subst eq
    subst ec
    refine kn hn kk rl ⟨?_, hS1, by rw [List.length_append, List.length_singleton]; omega, by rw [e1]; omega⟩
    rw [← zW_app]
    have ez : zE b base cs (.inl (t, .inr (List.replicate n.toNatClampNeg none))) = .inl (cs t, n.toNatClampNeg, .inr (.inr (.inr (.inr (fun _ => none))))) := by
      simp only [zE, List.length_replicate, rep_n, Option.map_none]
    rw [ez]
    exact hP1
  · cases hm
theorem s_new {ci idx p1 p2 p3 : Nat} (C : zC b base k0 cs D scr xs p R s m args meth c M) (hck : c_clk (mn M).cls idx ci p1 p3 = true) (hcn : c_new ci p2 = true) (hd : decode (mb M) pc = .ok (.new idx, 3)) (hn : c_nx M i pc 3 = true) (hm : o_new (m_dfl.getD ci []) ci i L st h = some (.inl (i1, L1, st1, h1))) (hR1 : h1.length ≤ k0 + R.cells) (hR2 : zs h1 ≤ z0 + R.slots) (rl : zR b base (mx M) L ls) (a : zA b base k0 z0 cs D s h H locs cells slots) (kk : zK p l e R s m args below meth c Q b base k0 z0 cs D M i1 L1 st1 h1) : W p l e R s m args below meth c H locs cells slots Q (F0 m pc ls (st.map (zt b base))) := by
  obtain ⟨hx, hb, hml, hr, hown, hts, hlocks, hini, hX, hf, hw, hsz, hbb, hscr⟩ := C
  unfold o_new at hm
  obtain ⟨rfl, rfl, rfl, rfl⟩ := nx_eq hm
  unfold c_clk at hck
  unfold c_new at hcn
  cases hq : vwCl[ci]? with
  | none => rw [hq] at hck; cases hck
  | some q =>
    rw [hq] at hck hcn
    obtain ⟨w1, w3⟩ := b_and hck
    obtain ⟨hdf, hdl⟩ := cls_df ci q hq
    have hl := a.2.2.1
    have hz := a.2.2.2
    have e1 : zs (h ++ [.inr (ci, m_dfl.getD ci [])]) = zs h + q.2.2 := by rw [zs_app, ← hdl]; simp [zs, szE]
    rw [List.length_append, List.length_singleton] at hR1
    rw [e1] at hR2
    refine va_new (ci := ci) (fs := m_dfl.getD ci []) (C := q.1) (T := q.2.1) (N := q.2.2) hx hb hts (cls_in ci q hq) (cls_t ci) (cls_ty ci q hq) hown (hts _ (c_w_in w1 rfl)) (hts _ (c_w_in hcn rfl)) (hts _ (c_w_in w3 rfl)) hX.1 a.1 (zW_D b base cs h) a.2.1 (fun q hq => by omega) hq hdf (by omega) (by omega) hd (fun q2 H1 hP1 hD1 hS1 => ?_)
    refine W_sz (fun hs => ?_)
    have eq := z_new hsz a hP1 hD1 hs
    subst eq
    refine kn hn kk rl ⟨?_, hS1, by rw [List.length_append, List.length_singleton]; omega, by rw [e1]; omega⟩
    rw [← zW_app]
    show va_P D vwCl (zW b base cs h ++ [(base + h.length, .inr (ci, (m_dfl.getD ci []).map (zt b base)))]) H1
    rw [m_dfl_zt]
    exact hP1
theorem s_cpy {idx p1 p2 p3 p4 : Nat} (C : zC b base k0 cs D scr xs p R s m args meth c M) (w1 : c_w p1 (.methodLink (mn M).cls idx arraycopyName) = true) (w2 : c_w p2 (.native arraycopyName) = true) (w3 : c_w p3 (.static arraycopyName) = true) (w4 : c_w p4 (.initialized "java/lang/System") = true) (hf1 : 1 ≤ mf M) (hf2 : 8 + (nativeFrameWords "java/lang/System" "arraycopy" 5 + 11) ≤ mw M) (hd : decode (mb M) pc = .ok (.invokestatic idx, 3)) (hn : c_nx M i pc 3 = true) (hm : o_cpy i L st h = some (.inl (i1, L1, st1, h1))) (rl : zR b base (mx M) L ls) (a : zA b base k0 z0 cs D s h H locs cells slots) (kk : zK p l e R s m args below meth c Q b base k0 z0 cs D M i1 L1 st1 h1) : W p l e R s m args below meth c H locs cells slots Q (F0 m pc ls (st.map (zt b base))) := by
  obtain ⟨hx, hb, hml, hr, hown, hts, hlocks, hini, hX, hf, hw, hsz, hbb, hscr⟩ := C
  unfold o_cpy at hm
  split at hm
  · split at hm
    · rename_i n dp a1 sp a0 r o1 o2 f g hq0 hq1
      obtain ⟨g1, g2⟩ := b_if hm
      obtain ⟨g3, g4⟩ := b_and g1
      obtain ⟨x1, g3⟩ := b_and g3
      obtain ⟨x2, x3⟩ := b_and g3
      obtain ⟨x4, g4⟩ := b_and g4
      obtain ⟨x5, x6⟩ := b_and g4
      have x1 : ¬ sp < 0 := by simpa using x1
      have x2 : ¬ dp < 0 := by simpa using x2
      have x3 : ¬ n < 0 := by simpa using x3
      have x4 : sp.toNatClampNeg + n.toNatClampNeg ≤ f.length := of_decide_eq_true x4
      have x5 : dp.toNatClampNeg + n.toNatClampNeg ≤ g.length := of_decide_eq_true x5
      have x6 : (r.map fun v => v.category).sum ≤ 8 := of_decide_eq_true x6
      obtain ⟨rfl, rfl, rfl, rfl⟩ := nx_eq g2
      have es : ((st1.map (zt b base)).map fun v => v.category).sum = (st1.map fun v => v.category).sum := by
        rw [List.map_map]
        congr 1
        exact List.map_congr_left (fun v _ => zt_cat b base v)
      refine va_copyi hx hb (hml.trans rl.2.1.symm) hown (hts _ (c_w_in w1 rfl)) (hts _ (c_w_in w2 rfl)) (hts _ (c_w_in w3 rfl)) (hts _ (c_w_in w4 rfl)) hX.1 a.1 (zW_D b base cs h) a.2.1 a0 a1 0 0 (zW_get hq0) (zW_get hq1) rfl rfl rfl x1 x2 x3 x4 x5 (fun _ _ => rfl) (by omega) (by rw [es]; omega) hd (fun H1 locs1 hP _ hS => kn hn kk rl ⟨?_, hS, by rw [List.length_set]; exact a.2.2.1, (zs_set hq1 (by simp [szE, m_cpy]; omega)).trans a.2.2.2⟩)
      rw [← zW_set, zE_cpy _ _ _ _ x4 x5]
      exact hP
    · cases hm
  · cases hm
theorem z_sum (r : List Value) : ((r.map (zt b base)).map fun v => v.category).sum = (r.map fun v => v.category).sum := by
  rw [List.map_map]
  congr 1
  exact List.map_congr_left (fun v _ => zt_cat b base v)
theorem s_obj {idx p1 p2 p3 : Nat} (C : zC b base k0 cs D scr xs p R s m args meth c M) (w1 : c_w p1 (.methodLink (mn M).cls idx objectInit) = true) (w2 : c_w p2 (.instanceMethod objectInit) = true) (w3 : c_w p3 (.code objectInit ⟨#[0xb1]⟩ 1 none) = true) (hf1 : 1 ≤ mf M) (hf2 : 20 ≤ mw M) (hd : decode (mb M) pc = .ok (.invokespecial idx, 3)) (hn : c_nx M i pc 3 = true) (hm : o_obj i L st h = some (.inl (i1, L1, st1, h1))) (rl : zR b base (mx M) L ls) (a : zA b base k0 z0 cs D s h H locs cells slots) (kk : zK p l e R s m args below meth c Q b base k0 z0 cs D M i1 L1 st1 h1) : W p l e R s m args below meth c H locs cells slots Q (F0 m pc ls (st.map (zt b base))) := by
  obtain ⟨hx, hb, hml, hr, hown, hts, hlocks, hini, hX, hf, hw, hsz, hbb, hscr⟩ := C
  unfold o_obj at hm
  split at hm
  · rename_i q r
    obtain ⟨g1, g2⟩ := b_if hm
    have g1 : (r.map fun v => v.category).sum ≤ 8 := of_decide_eq_true g1
    obtain ⟨rfl, rfl, rfl, rfl⟩ := nx_eq g2
    have es := z_sum (b := b) (base := base) st1
    exact W.objInit hx hb hown (hts _ (c_w_in w1 rfl)) (hts _ (c_w_in w2 rfl)) (hts _ (c_w_in w3 rfl)) rfl (by rw [hml]; exact rl.2.1) (a := base + q) (rest := st1.map (zt b base)) rfl hd (by omega) (by show 2 * 0 + _ + 12 ≤ _; rw [es]; omega) (kn hn kk rl a)
  · cases hm
theorem s_math {idx n : Nat} {ops : List Int} {y : MethodName} {cd : ByteArray} (C : zC b base k0 cs D scr xs p R s m args meth c M) (w : c_math M idx ops y cd n = true) : (Cond.methodLink (mn M).cls idx y).before args s = true ∧ (Cond.static y).before args s = true ∧ (Cond.initialized "java/lang/Math").before args s = true ∧ (Cond.code y cd n (some .int)).before args s = true ∧ 1 ≤ R.frames ∧ 21 ≤ R.locals := by
  obtain ⟨hx, hb, hml, hr, hown, hts, hlocks, hini, hX, hf, hw, hsz, hbb, hscr⟩ := C
  unfold c_math at w
  obtain ⟨w1, w⟩ := b_and w
  obtain ⟨w2, w⟩ := b_and w
  obtain ⟨w3, w⟩ := b_and w
  obtain ⟨w4, w⟩ := b_and w
  obtain ⟨w5, w6⟩ := b_and w
  have w5 : 1 ≤ mf M := of_decide_eq_true w5
  have w6 : 21 ≤ mw M := of_decide_eq_true w6
  exact ⟨hts _ (c_w_in w1 rfl), hts _ (c_w_in w2 rfl), hts _ (c_w_in w3 rfl), hts _ (c_w_in w4 rfl), by omega, by omega⟩
end STP
