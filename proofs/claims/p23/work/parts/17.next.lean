/-! all instructions that go on -/
section STP
variable {p : Program} {l : Launch} {e : Env} {R : Room} {s : State} {m : MethodId} {args : Array Value} {below : List Frame} {meth : Method} {c : Code} {Q : State → Prop} {b base k0 z0 : Nat} {cs : Nat → ClassId} {D : va_G} {scr : Cell} {xs : List Int32} {M : MM} {H : Heap} {locs : List Loc} {cells slots : Nat} {ls : Array Slot} {i i1 pc len : Nat} {L L1 : ML} {st st1 : List Value} {h h1 : MH}
theorem c_to_ex {t : Nat} {off : Int} (hn : c_to M t pc off = true) : ∃ tgt : Nat, (pc : Int) + off = (tgt : Int) := by
  unfold c_to at hn
  split at hn
  · rename_i r _
    exact ⟨r.1, of_decide_eq_true hn⟩
  · cases hn
theorem s_icmp {cc : Jvm.ClassFile.Cond} {t : Nat} {off : Int} (C : zC b base k0 cs D scr xs p R s m args meth c M) (hd : decode (mb M) pc = .ok (.if_icmp cc off, 3)) (hn : c_nx M i pc 3 = true) (hto : c_to M t pc off = true) (hm : o_icmp cc t i L st h = some (.inl (i1, L1, st1, h1))) (rl : zR b base (mx M) L ls) (a : zA b base k0 z0 cs D s h H locs cells slots) (kk : zK p l e R s m args below meth c Q b base k0 z0 cs D M i1 L1 st1 h1) : W p l e R s m args below meth c H locs cells slots Q (F0 m pc ls (st.map (zt b base))) := by
  have hx := C.1
  have hb := C.2.1
  obtain ⟨x, y, rfl, rfl, rfl, hc⟩ := v_icmp hm
  obtain ⟨tg, htg⟩ := c_to_ex hto
  rcases hc with ⟨hc, rfl⟩ | ⟨hc, rfl⟩
  · obtain ⟨tgt, ht, wt⟩ := kt hto kk rl a
    cases cc
    · exact lv_icmp_eq hx hb hd ht (fun _ => wt) (fun hq => absurd (of_decide_eq_true hc) hq)
    · exact lv_icmp_ne hx hb hd ht (fun _ => wt) (fun hq => absurd hq (of_decide_eq_true hc))
    · exact lv_icmp_lt hx hb hd ht (fun _ => wt) (fun hq => absurd (of_decide_eq_true hc) hq)
    · exact lv_icmp_ge hx hb hd ht (fun _ => wt) (fun hq => absurd (of_decide_eq_true hc) hq)
    · exact lv_icmp_gt hx hb hd ht (fun _ => wt) (fun hq => absurd (of_decide_eq_true hc) hq)
    · exact lv_icmp_le hx hb hd ht (fun _ => wt) (fun hq => absurd (of_decide_eq_true hc) hq)
  · cases cc
    · exact lv_icmp_eq hx hb hd htg (fun hq => absurd hq (of_decide_eq_false hc)) (fun _ => kn hn kk rl a)
    · exact lv_icmp_ne hx hb hd htg (fun hq => absurd hq (of_decide_eq_false hc)) (fun _ => kn hn kk rl a)
    · exact lv_icmp_lt hx hb hd htg (fun hq => absurd hq (of_decide_eq_false hc)) (fun _ => kn hn kk rl a)
    · exact lv_icmp_ge hx hb hd htg (fun hq => absurd hq (of_decide_eq_false hc)) (fun _ => kn hn kk rl a)
    · exact lv_icmp_gt hx hb hd htg (fun hq => absurd hq (of_decide_eq_false hc)) (fun _ => kn hn kk rl a)
    · exact lv_icmp_le hx hb hd htg (fun hq => absurd hq (of_decide_eq_false hc)) (fun _ => kn hn kk rl a)
theorem s_if {cc : Jvm.ClassFile.Cond} {t : Nat} {off : Int} (C : zC b base k0 cs D scr xs p R s m args meth c M) (hd : decode (mb M) pc = .ok (.ifCond cc off, 3)) (hn : c_nx M i pc 3 = true) (hto : c_to M t pc off = true) (hm : o_if cc t i L st h = some (.inl (i1, L1, st1, h1))) (rl : zR b base (mx M) L ls) (a : zA b base k0 z0 cs D s h H locs cells slots) (kk : zK p l e R s m args below meth c Q b base k0 z0 cs D M i1 L1 st1 h1) : W p l e R s m args below meth c H locs cells slots Q (F0 m pc ls (st.map (zt b base))) := by
  have hx := C.1
  have hb := C.2.1
  obtain ⟨x, rfl, rfl, rfl, hc⟩ := v_if hm
  obtain ⟨tg, htg⟩ := c_to_ex hto
  rcases hc with ⟨hc, rfl⟩ | ⟨hc, rfl⟩
  · obtain ⟨tgt, ht, wt⟩ := kt hto kk rl a
    cases cc
    · exact lv_if_eq hx hb hd ht (fun _ => wt) (fun hq => absurd (of_decide_eq_true hc) hq)
    · exact lv_if_ne hx hb hd ht (fun _ => wt) (fun hq => absurd hq (of_decide_eq_true hc))
    · exact lv_if_lt hx hb hd ht (fun _ => wt) (fun hq => absurd (of_decide_eq_true hc) hq)
    · exact lv_if_ge hx hb hd ht (fun _ => wt) (fun hq => absurd (of_decide_eq_true hc) hq)
    · exact lv_if_gt hx hb hd ht (fun _ => wt) (fun hq => absurd (of_decide_eq_true hc) hq)
    · exact lv_if_le hx hb hd ht (fun _ => wt) (fun hq => absurd (of_decide_eq_true hc) hq)
  · cases cc
    · exact lv_if_eq hx hb hd htg (fun hq => absurd hq (of_decide_eq_false hc)) (fun _ => kn hn kk rl a)
    · exact lv_if_ne hx hb hd htg (fun hq => absurd hq (of_decide_eq_false hc)) (fun _ => kn hn kk rl a)
    · exact lv_if_lt hx hb hd htg (fun hq => absurd hq (of_decide_eq_false hc)) (fun _ => kn hn kk rl a)
    · exact lv_if_ge hx hb hd htg (fun hq => absurd hq (of_decide_eq_false hc)) (fun _ => kn hn kk rl a)
    · exact lv_if_gt hx hb hd htg (fun hq => absurd hq (of_decide_eq_false hc)) (fun _ => kn hn kk rl a)
    · exact lv_if_le hx hb hd htg (fun hq => absurd hq (of_decide_eq_false hc)) (fun _ => kn hn kk rl a)
theorem s_sw {d lo hi : Int} {offs : Array Int} {ops : List Int} (C : zC b base k0 cs D scr xs p R s m args meth c M) (hd : decode (mb M) pc = .ok (.tableswitch d lo hi offs, len)) (h0 : c_to M (m_n ops 0) pc d = true) (hto : (List.range offs.size).all (fun k => c_to M (m_n ops (k + 1)) pc (offs.getD k 0)) = true) (hsz : (offs.size : Int) = hi - lo + 1) (hm : o_sw lo hi ops L st h = some (.inl (i1, L1, st1, h1))) (rl : zR b base (mx M) L ls) (a : zA b base k0 z0 cs D s h H locs cells slots) (kk : zK p l e R s m args below meth c Q b base k0 z0 cs D M i1 L1 st1 h1) : W p l e R s m args below meth c H locs cells slots Q (F0 m pc ls (st.map (zt b base))) := by
  have hx := C.1
  have hb := C.2.1
  unfold o_sw at hm
  split at hm
  · rename_i x r
    split at hm
    · rename_i hc
      cases hm
      obtain ⟨tgt, ht, wt⟩ := kt h0 kk rl a
      exact lv_tableOut hx hb hd hc ht wt
    · rename_i hc
      cases hm
      have g1 : ¬ x.toInt < lo := fun q => hc (Or.inl q)
      have g2 : ¬ hi < x.toInt := fun q => hc (Or.inr q)
      have hk : (x.toInt - lo).toNat < offs.size := by omega
      have hto2 := List.all_eq_true.mp hto _ (List.mem_range.mpr hk)
      obtain ⟨tgt, ht, wt⟩ := kt hto2 kk rl a
      exact lv_tableIn hx hb hd g1 g2 (by rw [Array.getD_eq_getD_getElem?, Array.getElem?_eq_getElem hk] at ht; exact Array.getElem?_eq_getElem hk) (by rw [Array.getD_eq_getD_getElem?, Array.getElem?_eq_getElem hk] at ht; exact ht) wt
  · cases hm
theorem st_next {fl : Bool} {row : MR} (C : zC b base k0 cs D scr xs p R s m args meth c M) (hchk : m_chk m_tab M i row = true) (hm : mexec fl xs row.2.1 row.2.2.2 i L st h = some (.inl (i1, L1, st1, h1))) (hR1 : h1.length ≤ k0 + R.cells) (hR2 : zs h1 ≤ z0 + R.slots) (rl : zR b base (mx M) L ls) (a : zA b base k0 z0 cs D s h H locs cells slots) (kk : zK p l e R s m args below meth c Q b base k0 z0 cs D M i1 L1 st1 h1) : W p l e R s m args below meth c H locs cells slots Q (F0 m row.1 ls (st.map (zt b base))) := by
  obtain ⟨pc, ins, len, ops⟩ := row
  have hx := C.1
  have hb := C.2.1
  have hml := C.2.2.1
  have hown := C.2.2.2.2.1
  have hts := C.2.2.2.2.2.1
  have hX := C.2.2.2.2.2.2.2.2.1
  obtain ⟨hd1, hq1⟩ := b_and hchk
  obtain ⟨hlen, hq⟩ := b_and hq1
  have hd : decode (mb M) pc = .ok (ins, len) := of_decide_eq_true hd1
  clear hchk hd1 hq1
  have hl := a.2.2.1
  have hz := a.2.2.2
  cases ins
  case iconst n =>
    obtain rfl := lenOf (k := 1) hlen rfl (by decide)
    have hn : c_nx M i pc 1 = true := hq
    obtain ⟨rfl, rfl, rfl, rfl⟩ := nx_eq hm
    exact lv_iconst hx hb hd rfl (kn hn kk rl a)
  case bipush n =>
    obtain rfl := lenOf (k := 2) hlen rfl (by decide)
    have hn : c_nx M i pc 2 = true := hq
    obtain ⟨rfl, rfl, rfl, rfl⟩ := nx_eq hm
    exact lv_bipush hx hb hd rfl (kn hn kk rl a)
  case sipush n =>
    obtain rfl := lenOf (k := 3) hlen rfl (by decide)
    have hn : c_nx M i pc 3 = true := hq
    obtain ⟨rfl, rfl, rfl, rfl⟩ := nx_eq hm
    exact lv_sipush hx hb hd rfl (kn hn kk rl a)
  case lconst n =>
    obtain rfl := lenOf (k := 1) hlen rfl (by decide)
    have hn : c_nx M i pc 1 = true := hq
    obtain ⟨rfl, rfl, rfl, rfl⟩ := nx_eq hm
    exact lv_lconst hx hb hd rfl (kn hn kk rl a)
  case ldc k =>
    obtain rfl := lenOf (k := 2) hlen rfl (by decide)
    obtain ⟨hn, hw⟩ := b_and (show (c_nx M i pc 2 && c_w (m_n ops 1) (.constant (mn M).cls k (Int32.ofInt (ops.getD 0 0)))) = true from hq)
    obtain ⟨rfl, rfl, rfl, rfl⟩ := nx_eq hm
    exact lv_ldc hx hb hown (hts _ (c_w_in hw rfl)) hd (kn hn kk rl a)
  case ldc_w k =>
    obtain rfl := lenOf (k := 3) hlen rfl (by decide)
    obtain ⟨hn, hw⟩ := b_and (show (c_nx M i pc 3 && c_w (m_n ops 1) (.constant (mn M).cls k (Int32.ofInt (ops.getD 0 0)))) = true from hq)
    obtain ⟨rfl, rfl, rfl, rfl⟩ := nx_eq hm
    exact lv_ldcw hx hb hown (hts _ (c_w_in hw rfl)) hd (kn hn kk rl a)
  case ldc2_w k =>
    obtain rfl := lenOf (k := 3) hlen rfl (by decide)
    obtain ⟨hn, hw⟩ := b_and (show (c_nx M i pc 3 && c_w (m_n ops 1) (.constantLong (mn M).cls k (Int64.ofInt (ops.getD 0 0)))) = true from hq)
    obtain ⟨rfl, rfl, rfl, rfl⟩ := nx_eq hm
    exact lv_ldc2 hx hb hown (hts _ (c_w_in hw rfl)) hd (kn hn kk rl a)
  case iload k =>
    obtain rfl := lenOf (k := 2) hlen rfl (by decide)
    have hn : c_nx M i pc 2 = true := hq
    obtain ⟨x, hk, rfl, rfl, rfl, rfl⟩ := v_il hm
    exact lv_iload hx hb hd (rl.2.2.2 _ _ hk) (kn hn kk rl a)
  case iload_n k =>
    obtain rfl := lenOf (k := 1) hlen rfl (by decide)
    have hn : c_nx M i pc 1 = true := hq
    obtain ⟨x, hk, rfl, rfl, rfl, rfl⟩ := v_il hm
    exact lv_iload_n hx hb hd rfl (rl.2.2.2 _ _ hk) (kn hn kk rl a)
  case lload k =>
    obtain rfl := lenOf (k := 2) hlen rfl (by decide)
    have hn : c_nx M i pc 2 = true := hq
    obtain ⟨x, hk, rfl, rfl, rfl, rfl⟩ := v_jl hm
    exact lv_lload hx hb hd (rl.2.2.2 _ _ hk) (kn hn kk rl a)
  case lload_n k =>
    obtain rfl := lenOf (k := 1) hlen rfl (by decide)
    have hn : c_nx M i pc 1 = true := hq
    obtain ⟨x, hk, rfl, rfl, rfl, rfl⟩ := v_jl hm
    exact lv_lload_n hx hb hd rfl (rl.2.2.2 _ _ hk) (kn hn kk rl a)
  case aload k =>
    obtain rfl := lenOf (k := 2) hlen rfl (by decide)
    have hn : c_nx M i pc 2 = true := hq
    obtain ⟨v, q, hk, hv, rfl, rfl, rfl, rfl⟩ := v_al (b := b) (base := base) hm
    have h2 := rl.2.2.2 _ _ hk
    have k2 := kn (H := H) (locs := locs) (cells := cells) (slots := slots) hn kk rl a
    rw [List.map_cons, hv] at k2
    rw [hv] at h2
    exact lv_aload hx hb hd h2 k2
  case istore k =>
    obtain rfl := lenOf (k := 2) hlen rfl (by decide)
    have hn : c_nx M i pc 2 = true := hq
    obtain ⟨x, r, hk, rfl, rfl, rfl, rfl, rfl⟩ := v_is hm
    exact lv_istore hx hb hd rl.has (by rw [← rl.1]; exact hk) rfl (fun ls2 hl2 => kn hn kk (rl.st1 (v := .int x) hk hl2) a)
  case lstore k =>
    obtain rfl := lenOf (k := 2) hlen rfl (by decide)
    have hn : c_nx M i pc 2 = true := hq
    obtain ⟨x, r, hk, rfl, rfl, rfl, rfl, rfl⟩ := v_js hm
    exact lv_lstore hx hb hd rl.has (by rw [← rl.1]; exact hk) rfl (fun ls2 hl2 => kn hn kk (rl.st2 (v := .long x) hk hl2) a)
  case astore k =>
    obtain rfl := lenOf (k := 2) hlen rfl (by decide)
    have hn : c_nx M i pc 2 = true := hq
    obtain ⟨x, r, hk, rfl, rfl, rfl, rfl, rfl⟩ := v_as hm
    exact lv_astore hx hb hd rl.has (by rw [← rl.1]; exact hk) rfl (fun ls2 hl2 => kn hn kk (rl.st1 (v := .ref x) hk hl2) a)
  case aload_n k =>
    obtain rfl := lenOf (k := 1) hlen rfl (by decide)
    have hn : c_nx M i pc 1 = true := hq
    obtain ⟨v, q, hk, hv, rfl, rfl, rfl, rfl⟩ := v_al (b := b) (base := base) hm
    have h2 := rl.2.2.2 _ _ hk
    have k2 := kn (H := H) (locs := locs) (cells := cells) (slots := slots) hn kk rl a
    rw [List.map_cons, hv] at k2
    rw [hv] at h2
    exact lv_aload_n hx hb hd rfl h2 k2
  case istore_n k =>
    obtain rfl := lenOf (k := 1) hlen rfl (by decide)
    have hn : c_nx M i pc 1 = true := hq
    obtain ⟨x, r, hk, rfl, rfl, rfl, rfl, rfl⟩ := v_is hm
    exact lv_istore_n hx hb hd rfl rl.has (by rw [← rl.1]; exact hk) rfl (fun ls2 hl2 => kn hn kk (rl.st1 (v := .int x) hk hl2) a)
  case lstore_n k =>
    obtain rfl := lenOf (k := 1) hlen rfl (by decide)
    have hn : c_nx M i pc 1 = true := hq
    obtain ⟨x, r, hk, rfl, rfl, rfl, rfl, rfl⟩ := v_js hm
    exact lv_lstore_n hx hb hd rfl rl.has (by rw [← rl.1]; exact hk) rfl (fun ls2 hl2 => kn hn kk (rl.st2 (v := .long x) hk hl2) a)
  case astore_n k =>
    obtain rfl := lenOf (k := 1) hlen rfl (by decide)
    have hn : c_nx M i pc 1 = true := hq
    obtain ⟨x, r, hk, rfl, rfl, rfl, rfl, rfl⟩ := v_as hm
    exact lv_astore_n hx hb hd rfl rl.has (by rw [← rl.1]; exact hk) rfl (fun ls2 hl2 => kn hn kk (rl.st1 (v := .ref x) hk hl2) a)
  case iinc k n =>
    obtain rfl := lenOf (k := 3) hlen rfl (by decide)
    have hn : c_nx M i pc 3 = true := hq
    obtain ⟨x, hk, rfl, rfl, rfl, rfl⟩ := v_inc hm
    obtain ⟨kp, hkp⟩ := List.getElem?_of_mem (asc_mem (b := b) (base := base) hk)
    have hkl : k < L.length := (List.getElem?_eq_some_iff.mp hk).1
    exact lv_iinc hx hb hd rl.has hkp rfl (by rw [← rl.1]; exact hkl) rfl (fun ls2 hl2 => kn hn kk (rl.st1 (v := .int (x + Int32.ofInt n)) hkl hl2) a)
  case dup =>
    obtain rfl := lenOf (k := 1) hlen rfl (by decide)
    have hn : c_nx M i pc 1 = true := hq
    obtain ⟨v, r, hc, rfl, rfl, rfl, rfl, rfl⟩ := v_dup hm
    exact lv_dup hx hb hd ((zt_cat b base v).trans hc) (kn hn kk rl a)
  case dup2 =>
    obtain rfl := lenOf (k := 1) hlen rfl (by decide)
    have hn : c_nx M i pc 1 = true := hq
    obtain ⟨v, w, r, hc, rfl, rfl, rfl, rfl, rfl⟩ := v_dup2 hm
    exact lv_dup2_11 hx hb hd ((zt_cat b base v).trans hc.1) ((zt_cat b base w).trans hc.2) (kn hn kk rl a)
  case pop =>
    obtain rfl := lenOf (k := 1) hlen rfl (by decide)
    have hn : c_nx M i pc 1 = true := hq
    obtain ⟨v, r, hc, rfl, rfl, rfl, rfl, rfl⟩ := v_pop hm
    exact lv_pop hx hb hd ((zt_cat b base v).trans hc) (kn hn kk rl a)
  case pop2 =>
    obtain rfl := lenOf (k := 1) hlen rfl (by decide)
    have hn : c_nx M i pc 1 = true := hq
    obtain ⟨v, r, hc, rfl, rfl, rfl, rfl, rfl⟩ := v_pop2 hm
    exact lv_pop2_2 hx hb hd ((zt_cat b base v).trans hc) (kn hn kk rl a)
  case iadd =>
    obtain rfl := lenOf (k := 1) hlen rfl (by decide)
    have hn : c_nx M i pc 1 = true := hq
    obtain ⟨x, y, r, rfl, rfl, rfl, rfl, rfl⟩ := v_ii hm
    exact lv_iadd hx hb hd (kn hn kk rl a)
  case isub =>
    obtain rfl := lenOf (k := 1) hlen rfl (by decide)
    have hn : c_nx M i pc 1 = true := hq
    obtain ⟨x, y, r, rfl, rfl, rfl, rfl, rfl⟩ := v_ii hm
    exact lv_isub hx hb hd (kn hn kk rl a)
  case imul =>
    obtain rfl := lenOf (k := 1) hlen rfl (by decide)
    have hn : c_nx M i pc 1 = true := hq
    obtain ⟨x, y, r, rfl, rfl, rfl, rfl, rfl⟩ := v_ii hm
    exact lv_imul hx hb hd (kn hn kk rl a)
  case iand =>
    obtain rfl := lenOf (k := 1) hlen rfl (by decide)
    have hn : c_nx M i pc 1 = true := hq
    obtain ⟨x, y, r, rfl, rfl, rfl, rfl, rfl⟩ := v_ii hm
    exact lv_iand hx hb hd (kn hn kk rl a)
  case ior =>
    obtain rfl := lenOf (k := 1) hlen rfl (by decide)
    have hn : c_nx M i pc 1 = true := hq
    obtain ⟨x, y, r, rfl, rfl, rfl, rfl, rfl⟩ := v_ii hm
    exact lv_ior hx hb hd (kn hn kk rl a)
  case ixor =>
    obtain rfl := lenOf (k := 1) hlen rfl (by decide)
    have hn : c_nx M i pc 1 = true := hq
    obtain ⟨x, y, r, rfl, rfl, rfl, rfl, rfl⟩ := v_ii hm
    exact lv_ixor hx hb hd (kn hn kk rl a)
  case ishl =>
    obtain rfl := lenOf (k := 1) hlen rfl (by decide)
    have hn : c_nx M i pc 1 = true := hq
    obtain ⟨x, y, r, rfl, rfl, rfl, rfl, rfl⟩ := v_ii hm
    exact lv_ishl hx hb hd (kn hn kk rl a)
  case ishr =>
    obtain rfl := lenOf (k := 1) hlen rfl (by decide)
    have hn : c_nx M i pc 1 = true := hq
    obtain ⟨x, y, r, rfl, rfl, rfl, rfl, rfl⟩ := v_ii hm
    exact lv_ishr hx hb hd (kn hn kk rl a)
  case iushr =>
    obtain rfl := lenOf (k := 1) hlen rfl (by decide)
    have hn : c_nx M i pc 1 = true := hq
    obtain ⟨x, y, r, rfl, rfl, rfl, rfl, rfl⟩ := v_ii hm
    exact lv_iushr hx hb hd rfl (kn hn kk rl a)
  case idiv =>
    obtain rfl := lenOf (k := 1) hlen rfl (by decide)
    have hn : c_nx M i pc 1 = true := hq
    obtain ⟨x, y, r, hy, rfl, rfl, rfl, rfl, rfl⟩ := v_id hm
    exact lv_idiv hx hb hd hy (kn hn kk rl a)
  case irem =>
    obtain rfl := lenOf (k := 1) hlen rfl (by decide)
    have hn : c_nx M i pc 1 = true := hq
    obtain ⟨x, y, r, hy, rfl, rfl, rfl, rfl, rfl⟩ := v_id hm
    exact lv_irem hx hb hd hy (kn hn kk rl a)
  case ladd =>
    obtain rfl := lenOf (k := 1) hlen rfl (by decide)
    have hn : c_nx M i pc 1 = true := hq
    obtain ⟨x, y, r, rfl, rfl, rfl, rfl, rfl⟩ := v_jj hm
    exact lv_ladd hx hb hd (kn hn kk rl a)
  case lsub =>
    obtain rfl := lenOf (k := 1) hlen rfl (by decide)
    have hn : c_nx M i pc 1 = true := hq
    obtain ⟨x, y, r, rfl, rfl, rfl, rfl, rfl⟩ := v_jj hm
    exact lv_lsub hx hb hd (kn hn kk rl a)
  case lmul =>
    obtain rfl := lenOf (k := 1) hlen rfl (by decide)
    have hn : c_nx M i pc 1 = true := hq
    obtain ⟨x, y, r, rfl, rfl, rfl, rfl, rfl⟩ := v_jj hm
    exact lv_lmul hx hb hd (kn hn kk rl a)
  case ldiv =>
    obtain rfl := lenOf (k := 1) hlen rfl (by decide)
    have hn : c_nx M i pc 1 = true := hq
    obtain ⟨x, y, r, hy, rfl, rfl, rfl, rfl, rfl⟩ := v_jd hm
    exact lv_ldiv hx hb hd hy (kn hn kk rl a)
  case lrem =>
    obtain rfl := lenOf (k := 1) hlen rfl (by decide)
    have hn : c_nx M i pc 1 = true := hq
    obtain ⟨x, y, r, hy, rfl, rfl, rfl, rfl, rfl⟩ := v_jd hm
    exact lv_lrem hx hb hd hy (kn hn kk rl a)
  case ineg =>
    obtain rfl := lenOf (k := 1) hlen rfl (by decide)
    have hn : c_nx M i pc 1 = true := hq
    obtain ⟨x, r, rfl, rfl, rfl, rfl, rfl⟩ := v_i1 hm
    exact lv_ineg hx hb hd (kn hn kk rl a)
  case i2l =>
    obtain rfl := lenOf (k := 1) hlen rfl (by decide)
    have hn : c_nx M i pc 1 = true := hq
    obtain ⟨x, r, rfl, rfl, rfl, rfl, rfl⟩ := v_i1 hm
    exact lv_i2l hx hb hd rfl (kn hn kk rl a)
  case i2b =>
    obtain rfl := lenOf (k := 1) hlen rfl (by decide)
    have hn : c_nx M i pc 1 = true := hq
    obtain ⟨x, r, rfl, rfl, rfl, rfl, rfl⟩ := v_i1 hm
    exact lv_i2b hx hb hd rfl (kn hn kk rl a)
  case i2s =>
    obtain rfl := lenOf (k := 1) hlen rfl (by decide)
    have hn : c_nx M i pc 1 = true := hq
    obtain ⟨x, r, rfl, rfl, rfl, rfl, rfl⟩ := v_i1 hm
    exact lv_i2s hx hb hd rfl (kn hn kk rl a)
  case lshl =>
    obtain rfl := lenOf (k := 1) hlen rfl (by decide)
    have hn : c_nx M i pc 1 = true := hq
    obtain ⟨x, y, r, rfl, rfl, rfl, rfl, rfl⟩ := v_lshl hm
    exact lv_lshl hx hb hd rfl (kn hn kk rl a)
  case lcmp =>
    obtain rfl := lenOf (k := 1) hlen rfl (by decide)
    have hn : c_nx M i pc 1 = true := hq
    obtain ⟨x, y, r, rfl, rfl, rfl, rfl, rfl⟩ := v_lcmp hm
    exact W.lcmp hx hb hd (kn hn kk rl a)
  case ifCond cc off =>
    obtain rfl := lenOf (k := 3) hlen rfl (by decide)
    obtain ⟨hn, hto⟩ := b_and (show (c_nx M i pc 3 && c_to M (m_n ops 0) pc off) = true from hq)
    exact s_if C hd hn hto hm rl a kk
  case if_icmp cc off =>
    obtain rfl := lenOf (k := 3) hlen rfl (by decide)
    obtain ⟨hn, hto⟩ := b_and (show (c_nx M i pc 3 && c_to M (m_n ops 0) pc off) = true from hq)
    exact s_icmp C hd hn hto hm rl a kk
  case goto off =>
    obtain rfl := lenOf (k := 3) hlen rfl (by decide)
    have hto : c_to M (m_n ops 0) pc off = true := hq
    cases hm
    obtain ⟨tgt, ht, wt⟩ := kt hto kk rl a
    exact lv_goto hx hb hd ht wt
  case tableswitch d lo hi offs =>
    obtain ⟨h0, hq⟩ := b_and (show (c_to M (m_n ops 0) pc d && ((List.range offs.size).all (fun k => c_to M (m_n ops (k + 1)) pc (offs.getD k 0)) && decide ((offs.size : Int) = hi - lo + 1))) = true from hq)
    obtain ⟨h2, h3⟩ := b_and hq
    exact s_sw C hd h0 h2 (of_decide_eq_true h3) hm rl a kk
  case iaload =>
    obtain rfl := lenOf (k := 1) hlen rfl (by decide)
    have hn : c_nx M i pc 1 = true := hq
    exact s_iald C hd hn hm rl a kk
  case baload =>
    obtain rfl := lenOf (k := 1) hlen rfl (by decide)
    have hn : c_nx M i pc 1 = true := hq
    exact s_zald C hd hn hm rl a kk
  case iastore =>
    obtain rfl := lenOf (k := 1) hlen rfl (by decide)
    have hn : c_nx M i pc 1 = true := hq
    exact s_iast C hd hn hm rl a kk
  case bastore =>
    obtain rfl := lenOf (k := 1) hlen rfl (by decide)
    have hn : c_nx M i pc 1 = true := hq
    exact s_zast C hd hn hm rl a kk
  case aaload =>
    obtain rfl := lenOf (k := 1) hlen rfl (by decide)
    have hn : c_nx M i pc 1 = true := hq
    exact s_aald C hd hn hm rl a kk
  case aastore =>
    obtain rfl := lenOf (k := 1) hlen rfl (by decide)
    have hn : c_nx M i pc 1 = true := hq
    exact s_aast C hd hn hm rl a kk
  case arraylength =>
    obtain rfl := lenOf (k := 1) hlen rfl (by decide)
    have hn : c_nx M i pc 1 = true := hq
    exact s_len C hd hn hm rl a kk
  case newarray t =>
    obtain rfl := lenOf (k := 2) hlen rfl (by decide)
    have hn : c_nx M i pc 2 = true := hq
    cases t
    case int => exact s_newa (t := 0) (ty := .int) C rfl ac_int rfl rfl (by decide) hd hn hm hR1 hR2 rl a kk
    case boolean => exact s_newa (t := 1) (ty := .boolean) C rfl ac_bool rfl rfl (by decide) hd hn hm hR1 hR2 rl a kk
    all_goals exact nomatch (show (none : Option MO) = some _ from hm)
  case anewarray k =>
    obtain rfl := lenOf (k := 3) hlen rfl (by decide)
    obtain ⟨hn, hq⟩ := b_and (show (c_nx M i pc 3 && (c_w (m_n ops 1) (.classLink (mn M).cls k (m_qn (m_n ops 0))) && (decide (m_n ops 0 = 2) || decide (m_n ops 0 = 3)))) = true from hq)
    obtain ⟨hw, ht⟩ := b_and hq
    have hm : o_newq (m_n ops 0) i L st h = some (.inl (i1, L1, st1, h1)) := hm
    generalize m_n ops 0 = t at *
    have ht : t = 2 ∨ t = 3 := by simpa using ht
    rcases ht with rfl | rfl
    · exact s_newq (N := "RowingEight$Text") C rfl hX.2.2.2.1 hw hd hn hm hR1 hR2 rl a kk
    · exact s_newq (N := "RowingEight$Sheet") C rfl hX.2.2.2.2.1 hw hd hn hm hR1 hR2 rl a kk
  case multianewarray k d =>
    obtain rfl := lenOf (k := 4) hlen rfl (by decide)
    obtain ⟨hn, hq⟩ := b_and (show (c_nx M i pc 4 && (c_w (m_n ops 0) (.classLink (mn M).cls k "[[I") && decide (d = 2))) = true from hq)
    obtain ⟨hw, hd2⟩ := b_and hq
    obtain rfl : d = 2 := of_decide_eq_true hd2
    exact s_newm C hw hd hn hm hR1 hR2 rl a kk
  case new k =>
    obtain rfl := lenOf (k := 3) hlen rfl (by decide)
    obtain ⟨hn, hq⟩ := b_and (show (c_nx M i pc 3 && (c_clk (mn M).cls k (m_n ops 0) (m_n ops 1) (m_n ops 3) && c_new (m_n ops 0) (m_n ops 2))) = true from hq)
    obtain ⟨h2, h3⟩ := b_and hq
    exact s_new C h2 h3 hd hn hm hR1 hR2 rl a kk
  case getfield k =>
    obtain rfl := lenOf (k := 3) hlen rfl (by decide)
    obtain ⟨hn, hq⟩ := b_and (show (c_nx M i pc 3 && c_fld (mn M).cls k (m_n ops 0) (m_n ops 1) (m_n ops 2)) = true from hq)
    exact s_get C hd hn hq hm rl a kk
  case putfield k =>
    obtain rfl := lenOf (k := 3) hlen rfl (by decide)
    obtain ⟨hn, hq⟩ := b_and (show (c_nx M i pc 3 && (c_fld (mn M).cls k (m_n ops 0) (m_n ops 1) (m_n ops 2) && (c_ty (m_n ops 3) (c_dsc (m_n ops 0) (m_n ops 1)) && c_fin M (m_n ops 0) (m_n ops 1)))) = true from hq)
    obtain ⟨h2, hq⟩ := b_and hq
    obtain ⟨h3, h4⟩ := b_and hq
    exact s_put C hd hn h2 h3 h4 hm rl a kk
  case invokevirtual k => exact (n_cv hm).elim
  case invokestatic k =>
    obtain rfl := lenOf (k := 3) hlen rfl (by decide)
    simp only [mexec] at hm
    simp only [] at hq
    obtain ⟨hn, hq⟩ := b_and hq
    split at hm
    · rename_i h9
      rw [h9] at hq
      obtain ⟨w1, hq⟩ := b_and hq
      obtain ⟨w2, hq⟩ := b_and hq
      obtain ⟨w3, hq⟩ := b_and hq
      obtain ⟨w4, hq⟩ := b_and hq
      obtain ⟨w5, w6⟩ := b_and hq
      exact s_cpy C w1 w2 w3 w4 (of_decide_eq_true w5) (of_decide_eq_true w6) hd hn hm rl a kk
    · rename_i h9
      rw [h9] at hq
      obtain ⟨w1, w2, w3, w4, w5, w6⟩ := s_math C hq
      obtain ⟨x, y, r, hr, rfl, rfl, rfl, rfl, rfl⟩ := v_mm hm
      exact va_mmax hx hb (hml.trans rl.2.1.symm) hown w1 w2 w3 w4 w5 (by rw [z_sum]; omega) (by omega) (by omega) hd (kn hn kk rl a)
    · rename_i h9
      rw [h9] at hq
      obtain ⟨w1, w2, w3, w4, w5, w6⟩ := s_math C hq
      obtain ⟨x, y, r, hr, rfl, rfl, rfl, rfl, rfl⟩ := v_mm hm
      exact va_mmin hx hb (hml.trans rl.2.1.symm) hown w1 w2 w3 w4 w5 (by rw [z_sum]; omega) (by omega) (by omega) hd (kn hn kk rl a)
    · rename_i h9
      rw [h9] at hq
      obtain ⟨w1, w2, w3, w4, w5, w6⟩ := s_math C hq
      obtain ⟨x, r, hr, rfl, rfl, rfl, rfl, rfl⟩ := v_ma hm
      exact va_mabs hx hb (hml.trans rl.2.1.symm) hown w1 w2 w3 w4 w5 (by rw [z_sum]; omega) (by omega) (by omega) hd (kn hn kk rl a)
    · exact (n_cs hm).elim
  case invokespecial k =>
    obtain rfl := lenOf (k := 3) hlen rfl (by decide)
    simp only [mexec] at hm
    simp only [] at hq
    obtain ⟨hn, hq⟩ := b_and hq
    split at hm
    · rename_i h9
      rw [h9] at hq
      obtain ⟨w1, hq⟩ := b_and hq
      obtain ⟨w2, hq⟩ := b_and hq
      obtain ⟨w3, hq⟩ := b_and hq
      obtain ⟨w5, w6⟩ := b_and hq
      exact s_obj C w1 w2 w3 (of_decide_eq_true w5) (of_decide_eq_true w6) hd hn hm rl a kk
    · exact (n_ci hm).elim
  case ireturn => exact (n_ret hm).elim
  case lreturn => exact (n_lret hm).elim
  case areturn => exact (n_aret hm).elim
  case return_ => exact (n_vret hm).elim
  all_goals exact nomatch (show (none : Option MO) = some _ from hm)
end STP
