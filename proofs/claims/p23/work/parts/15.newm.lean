theorem vr_outer (c : ClassId) (N h0 : Nat) : ∀ i : Nat, Jvm.Free.Multi.outerC c N h0 i = arrV c N (fun j => va_rf (if j < i then some (h0 + 1 + j) else none))
  | 0 => by
    show ({ cls := c, slots := Array.replicate N .null, vm := .none } : Cell) = _
    rw [arrV_new]
    refine congrArg (arrV c N) (funext fun j => ?_)
    simp [va_rf]
  | i + 1 => by
    show (Jvm.Free.Multi.outerC c N h0 i).setSlot i (.ref (h0 + 1 + i)) = _
    rw [vr_outer c N h0 i, arrV_store]
    refine congrArg (arrV c N) (funext fun j => ?_)
    by_cases e : j = i
    · subst e
      simp [updV, va_rf]
    · by_cases h : j < i
      · simp [updV, e, h, Nat.lt_succ_of_lt h]
      · simp [updV, e, h, show ¬ j < i + 1 by omega]
section STP
variable {p : Program} {l : Launch} {e : Env} {R : Room} {s : State} {m : MethodId} {args : Array Value} {below : List Frame} {meth : Method} {c : Code} {Q : State → Prop} {b base k0 z0 : Nat} {cs : Nat → ClassId} {D : va_G} {scr : Cell} {xs : List Int32} {M : MM} {H : Heap} {locs : List Loc} {cells slots : Nat} {ls : Array Slot} {i i1 pc len : Nat} {L L1 : ML} {st st1 : List Value} {h h1 : MH}
/-- new int[n][k] -/
theorem s_newm {idx pl : Nat} (C : zC b base k0 cs D scr xs p R s m args meth c M) (w1 : c_w pl (.classLink (mn M).cls idx "[[I") = true) (hd : decode (mb M) pc = .ok (.multianewarray idx 2, 4)) (hn : c_nx M i pc 4 = true) (hm : o_newm i L st h = some (.inl (i1, L1, st1, h1))) (hR1 : h1.length ≤ k0 + R.cells) (hR2 : zs h1 ≤ z0 + R.slots) (rl : zR b base (mx M) L ls) (a : zA b base k0 z0 cs D s h H locs cells slots) (kk : zK p l e R s m args below meth c Q b base k0 z0 cs D M i1 L1 st1 h1) : W p l e R s m args below meth c H locs cells slots Q (F0 m pc ls (st.map (zt b base))) := by
  obtain ⟨hx, hb, hml, hr, hown, hts, hlocks, hini, hX, hf, hw, hsz, hbb, hscr⟩ := C
  unfold o_newm at hm
  split at hm
  · rename_i k n r
    obtain ⟨g1, g2⟩ := b_if hm
    obtain ⟨x1, g1⟩ := b_and g1
    obtain ⟨x2, g1⟩ := b_and g1
    obtain ⟨x3, x4⟩ := b_and g1
    have x1 : ¬ n < 0 := by simpa using x1
    have x2 : ¬ k < 0 := by simpa using x2
    have x3 : n.toNatClampNeg * 4 ≤ 536870912 := of_decide_eq_true x3
    have x4 : k.toNatClampNeg * 4 ≤ 536870912 := of_decide_eq_true x4
    obtain ⟨rfl, rfl, rfl, rfl⟩ := nx_eq g2
    have hl := a.2.2.1
    have hz := a.2.2.2
    generalize hN : n.toNatClampNeg = N at *
    generalize hKK : k.toNatClampNeg = K at *
    have e0 : (h ++ (Sum.inl (4, Sum.inr ((List.range N).map fun j => some (h.length + 1 + j))) :: List.replicate N (Sum.inl (0, Sum.inl (List.replicate K 0))) : MH)).length = h.length + 1 + N := by
      rw [List.length_append, List.length_cons, List.length_replicate]; omega
    have e1 : zs (h ++ (Sum.inl (4, Sum.inr ((List.range N).map fun j => some (h.length + 1 + j))) :: List.replicate N (Sum.inl (0, Sum.inl (List.replicate K 0))) : MH)) = zs h + (N + N * K) := by
      rw [zs_app]; simp [zs, szE]
    rw [e0] at hR1
    rw [e1] at hR2
    refine W_sz (fun hs => ?_)
    have hHs := zA_size hsz a hs
    intro T hT Xs
    obtain ⟨vm₁, cA, comp, -, fA, fC, -, -, X', step⟩ := Xs.multianewarray2F (ty := .int) hx hown (hts _ (c_w_in w1 rfl)) (over_moved (Vm.Alike.refl s.vm) hX.2.2.2.2.2) (hts _ ac_int) (g := F0 m pc ls (.int k :: .int n :: r.map (zt b base))) rfl (by rw [hb]; exact hd) rfl x1 x2 (by rw [hN]; exact x3) (by rw [hKK]; exact x4) (by rw [hKK]; omega) rfl rfl (by rw [hN]; omega) (by rw [hN, hKK]; omega)
    rw [hN, hKK] at X' step
    have ecA : cA = cs 4 := Option.some.inj (fA.symm.trans (hX.1.2 4 _ rfl).2)
    have ecC : comp = cs 0 := Option.some.inj (fC.symm.trans (hX.1.2 0 _ rfl).2)
    subst ecA
    subst ecC
    generalize hF : Jvm.Free.Multi.fill (T.setVm vm₁) (cs 4) (cs 0) N K (defaultValue .int) N = F at X' step
    have hTh : (T.setVm vm₁).heap = H := hT
    obtain ⟨f1, f2, -, -⟩ := Jvm.Free.Multi.fill_facts (T.setVm vm₁) (cs 4) (cs 0) N K (defaultValue .int) N
    rw [hF, hTh] at f1 f2
    have hold : ∀ x : Nat, x < H.size → F.heap[x]? = H[x]? := fun x hx => by
      have := Jvm.Free.Multi.fill_old (T.setVm vm₁) (cs 4) (cs 0) N K (defaultValue .int) (a := x) (by rw [hTh]; exact hx) N
      rw [hF, hTh] at this
      exact this
    have hrow : ∀ j : Nat, j < N → F.heap[H.size + 1 + j]? = some (Jvm.Free.Multi.innerC (cs 0) K (defaultValue .int)) := fun j hj => by
      have := Jvm.Free.Multi.fill_inner (T.setVm vm₁) (cs 4) (cs 0) N K (defaultValue .int) N j hj
      rw [hF, hTh] at this
      exact this
    rw [vr_outer] at f2
    have hin : Jvm.Free.Multi.innerC (cs 0) K (defaultValue .int) = arrV (cs 0) K (fun _ => .int 0) := by rw [← arrV_new]; rfl
    have hS := a.2.1
    have kk2 := kn (H := F.heap) (locs := locs) (cells := cells + 1 + N) (slots := slots + N + N * K) (ls := ls) hn kk rl ⟨?_, ⟨by rw [f1]; have := hS.1; omega, fun x h1 h2 => (hold x (Nat.lt_of_lt_of_le h1 hS.1)).trans (hS.2.1 x h1 h2), hS.2.2⟩, by rw [e0]; omega, by rw [e1]; omega⟩
    · obtain ⟨t, a1, b1⟩ := kk2 F rfl X'
      refine ⟨t, step t ?_, b1⟩
      have e2 : T.heap.size = base + h.length := by rw [hT]; exact hHs
      rw [e2]
      exact a1
    · intro j q hj
      obtain ⟨x, hx1, rfl⟩ := zW_at hj
      by_cases c1 : j < h.length
      · rw [List.getElem?_append_left c1] at hx1
        exact (a.1 j _ (zW_get hx1)).kept (hold _ (by show base + j < H.size; omega))
      · rw [List.getElem?_append_right (by omega)] at hx1
        by_cases c2 : j = h.length
        · subst c2
          rw [Nat.sub_self] at hx1
          cases hx1
          show F.heap[base + h.length]? = some (vp_cell _ _)
          rw [← hHs, f2, vp_cell_q]
          have el : ((List.range N).map fun j => some (h.length + 1 + j)).length = N := by simp
          rw [el]
          refine congrArg some (congrArg (arrV (cs 4) N) (funext fun j => ?_))
          by_cases c3 : j < N
          · rw [if_pos c3, List.getD_eq_getElem?_getD, List.getElem?_map, List.getElem?_range c3]
            show va_rf (some (H.size + 1 + j)) = va_rf (some (base + (h.length + 1 + j)))
            rw [hHs, show base + h.length + 1 + j = base + (h.length + 1 + j) by omega]
          · rw [if_neg c3, List.getD_eq_getElem?_getD, List.getElem?_eq_none (by rw [el]; omega)]
            rfl
        · obtain ⟨d, rfl⟩ : ∃ d, j = h.length + 1 + d := ⟨j - h.length - 1, by omega⟩
          rw [show h.length + 1 + d - h.length = d + 1 by omega, List.getElem?_cons_succ] at hx1
          have hd1 : d < N := by
            have := (List.getElem?_eq_some_iff.mp hx1).1
            rwa [List.length_replicate] at this
          rw [List.getElem?_replicate, if_pos hd1] at hx1
          cases hx1
          show F.heap[base + (h.length + 1 + d)]? = some (vp_cell _ _)
          rw [show base + (h.length + 1 + d) = H.size + 1 + d by omega, hrow d hd1, hin, vp_cell_i, List.length_replicate]
          exact congrArg some (congrArg (arrV (cs 0) K) (funext fun j => by rw [rep_0]))
  · cases hm
end STP
