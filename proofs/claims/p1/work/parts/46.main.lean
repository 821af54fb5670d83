/-! THE LAW: every case, then every script -/
def szc (c : AC) : Bool := match c with
  | .inl (_, n, _, _, _) => decide (n ≤ 300)
  | .inr (.inl (t, rs)) => decide (¬ t = 99) && decide (rs.length ≤ 300)
  | .inr (.inr (_, fs)) => decide (fs.length ≤ 300)
theorem sz_cell {c : AC} {x : ME} (g : gC c x) (hc : szc c = true) : szE x ≤ 300 := by
  obtain ⟨t, n, lo, hi, fz⟩ | ⟨t, rs⟩ | ⟨ci, fs⟩ := c
  · obtain ⟨l, rfl, hl, -⟩ := g
    have := of_decide_eq_true hc
    show l.length ≤ 300
    omega
  · obtain ⟨h1, h2⟩ := b_and hc
    rcases g with g | rfl
    · exact absurd g (of_decide_eq_true h1)
    · show (rs.map some).length ≤ 300
      rw [List.length_map]
      exact of_decide_eq_true h2
  · obtain ⟨vs, rfl, hl, -⟩ := g
    have := of_decide_eq_true hc
    show vs.length ≤ 300
    omega
def szH (H : AH) (lo n : Nat) : Bool := (List.range n).all (fun j => match H[lo + j]? with | some c => szc c | none => false)
theorem szH_sp {H : AH} {lo n a : Nat} {h : MH} {x : ME} (hs : szH H lo n = true) (g : gH H h) (h1 : lo ≤ a) (h2 : a < lo + n) (hx : h[a]? = some x) : szE x ≤ 300 := by
  have q := List.all_eq_true.mp hs (a - lo) (List.mem_range.mpr (by omega))
  rw [show lo + (a - lo) = a by omega] at q
  split at q
  · rename_i c hc
    obtain ⟨y, hy, gy⟩ := g.2 a c hc
    rw [hx] at hy
    cases hy
    exact sz_cell gy q
  · cases q
theorem szC : szH HCs 0 123 = true := by decide +kernel
theorem szM : szH HMs 123 30 = true := by decide +kernel
theorem zs_le : ∀ (h : MH), (∀ x ∈ h, szE x ≤ 300) → zs h ≤ 300 * h.length
  | [], _ => by decide
  | x :: h, q => by
    have ih := zs_le h (fun y hy => q y (List.mem_cons_of_mem _ hy))
    have := q x List.mem_cons_self
    show szE x + zs h ≤ 300 * (h.length + 1)
    omega
theorem room_of {h : MH} (g1 : gH HCs h) (g2 : gH HMs h) : h.length ≤ 600000 ∧ zs h ≤ 7302250 := by
  have hl : h.length = 153 := g1.1.symm.trans HCs_len
  refine ⟨by omega, Nat.le_trans (zs_le h (fun x hx => ?_)) (by omega)⟩
  obtain ⟨a, ha⟩ := List.getElem?_of_mem hx
  have hlt : a < 153 := by rw [← hl]; exact (List.getElem?_eq_some_iff.mp ha).1
  by_cases h1 : a < 123
  · exact szH_sp szC g1 (Nat.zero_le a) (by omega) ha
  · exact szH_sp szM g2 (by omega) (by omega) ha
def isZ (i : Nat) (c : Jvm.ClassFile.Cond) (t : Nat) : Bool := match (mc m_L_law)[i]? with
  | some (_, .ifCond x _, _, ops) => decide (x = c) && decide (m_n ops 0 = t)
  | _ => false
theorem isZ_sp {i t : Nat} {c : Jvm.ClassFile.Cond} (h : isZ i c t = true) : ∃ pc off len ops, (mc m_L_law)[i]? = some (pc, .ifCond c off, len, ops) ∧ m_n ops 0 = t := by
  unfold isZ at h
  split at h
  · rename_i pc x off len ops hr
    obtain ⟨h1, h2⟩ := b_and h
    rw [of_decide_eq_true h1] at hr
    exact ⟨pc, off, len, ops, hr, of_decide_eq_true h2⟩
  · cases h
theorem LwP.Z {J : MH → Prop} {xs : List Int32} {i : Nat} {L : ML} {st : List Value} {h : MH} {t : Nat} {c : Jvm.ClassFile.Cond} {x : Int32} (hr : isZ i c t = true) (kt : m_cmp c x 0 = true → LwP J xs t L st h) (kf : m_cmp c x 0 = false → LwP J xs (i + 1) L st h) : LwP J xs i L (.int x :: st) h := by
  obtain ⟨pc, off, len, ops, hrow, e⟩ := isZ_sp hr
  cases hc : m_cmp c x 0 with
  | true =>
    obtain ⟨q, k1, k2⟩ := kt hc
    subst e
    exact ⟨q, Rn.ifT hrow hc k1, k2⟩
  | false =>
    obtain ⟨q, k1, k2⟩ := kf hc
    exact ⟨q, Rn.ifF hrow hc k1, k2⟩
def caseL (R n y1 y2 : Nat) : Bool := isI R (.aload_n 1) && (a_rows n 1 (R + 1) && (isC (R + 1 + 5 * n) y1 n 6 && (isI (R + 2 + 5 * n) (.aload_n 2) && (a_rows n 1 (R + 3 + 5 * n) && (isC (R + 3 + 10 * n) y2 n 7 && (isI (R + 4 + 10 * n) .lcmp && isZ (R + 5 + 10 * n) .eq 873))))))
theorem case_leq {J : MH → Prop} {xs : List Int32} {j : Int32} {h : MH} {R n y1 y2 : Nat} (j1 : 0 ≤ j.toInt) (j2 : j.toInt + 6 ≤ (xs.length : Int)) (hx : xs.length ≤ 3072) (hc : caseL R n y1 y2 = true) (hn : n ≤ 5) (p : PairOK J TEl y1 y2 (argsOf xs j n 1) h) (k : ∀ h2, J h2 → LwP J xs 873 (sL j) [] h2) : LwP J xs R (sL j) [] h := by
  obtain ⟨c1, hc⟩ := b_and hc
  obtain ⟨c2, hc⟩ := b_and hc
  obtain ⟨c3, hc⟩ := b_and hc
  obtain ⟨c4, hc⟩ := b_and hc
  obtain ⟨c5, hc⟩ := b_and hc
  obtain ⟨c6, hc⟩ := b_and hc
  obtain ⟨c7, c8⟩ := b_and hc
  obtain ⟨M1, M2, r, h1, r2, h2, p1, p2, p3, p4, ⟨vs, p5⟩, ⟨ws, p6⟩, p7, p8, ⟨v, rfl, rfl⟩, p9⟩ := p
  refine LwP.I c1 (fun _ => rfl) ?_
  refine LwP.args j1 j2 hx n 1 (R + 1) _ c2 (by omega) ?_
  refine LwP.C (rest := []) c3 p5 (argsOf_len xs j n 1) rfl p1 p3 p7 ?_
  rw [show R + 1 + 5 * n + 1 = R + 2 + 5 * n by omega]
  refine LwP.I c4 (fun _ => rfl) ?_
  rw [show R + 2 + 5 * n + 1 = R + 3 + 5 * n by omega]
  refine LwP.args j1 j2 hx n 1 (R + 3 + 5 * n) _ c5 (by omega) ?_
  rw [show R + 3 + 5 * n + 5 * n = R + 3 + 10 * n by omega]
  refine LwP.C (rest := [.long v]) c6 p6 (argsOf_len xs j n 1) rfl p2 p4 p8 ?_
  rw [show R + 3 + 10 * n + 1 = R + 4 + 10 * n by omega]
  refine LwP.I (i1 := R + 5 + 10 * n) (st1 := [.int (lg_cmp v v)]) (L1 := sL j) (h1 := h2) c7 (fun _ => by
    rw [show R + 5 + 10 * n = R + 4 + 10 * n + 1 by omega]
    rfl) ?_
  have e : lg_cmp v v = 0 := by
    unfold lg_cmp
    rw [if_neg (fun q => by have := Int64.lt_iff_toInt_lt.mp q; omega), if_pos rfl]
  rw [e]
  refine LwP.Z c8 (fun _ => k h2 p9) (fun c => ?_)
  cases c
theorem law_loop1 {J : MH → Prop} {xs : List Int32} (hx : xs.length ≤ 3072) (hstep : ∀ (j : Int32) (h : MH), J h → (j.toInt = 0 → h = h0) → 0 ≤ j.toInt → j.toInt + 6 ≤ (xs.length : Int) → (∀ h2, J h2 → LwP J xs 873 (sL j) [] h2) → ∀ q, q < 37 → LwP J xs (m_n lawSw (q + 1)) (sL j) [] h) : ∀ (N : Nat) (j : Int32) (h : MH), J h → (j.toInt = 0 → h = h0) → 0 ≤ j.toInt → j.toInt ≤ 3072 → 3072 - j.toInt < N → LwP J xs 10 (sL j) [] h := by
  intro N
  induction N with
  | zero => intro j h _ _ _ _ q; exact absurd q (by omega)
  | succ N ih =>
    intro j h hJ jz j1 j2 hN
    have en : (Int32.ofNat xs.length).toInt = (xs.length : Int) := Int32.toInt_ofNat_of_lt (by omega)
    have z6 : (Int8.ofInt 6).toInt32.toInt = 6 := by decide
    have e6 : (Int32.ofNat xs.length - (Int8.ofInt 6).toInt32).toInt = (xs.length : Int) - 6 := (i32_sub (by omega) (by omega)).trans (by omega)
    refine LwP.I (i := 10) (ins := .iload_n 3) (by decide +kernel) (fun _ => rfl) ?_
    refine LwP.I (ins := .aload_n 0) (by decide +kernel) (fun _ => rfl) ?_
    refine LwP.I (ins := .arraylength) (by decide +kernel) (fun _ => rfl) ?_
    refine LwP.I (ins := .bipush 6) (by decide +kernel) (fun _ => rfl) ?_
    refine LwP.I (ins := .isub) (by decide +kernel) (fun _ => rfl) ?_
    refine LwP.Q (c := .gt) (t := 875) (x := j) (y := Int32.ofNat xs.length - (Int8.ofInt 6).toInt32) (by decide +kernel) (fun _ => ?_) (fun c => ?_)
    · refine LwP.I (ins := .iconst 1) (by decide +kernel) (fun _ => rfl) ?_
      obtain ⟨pc, len, ops, hrow, e⟩ := isR_sp (show isR 876 = true by decide +kernel)
      refine ⟨h, Rn.ret ?_, hJ⟩
      unfold mstep
      rw [hrow]
      show o_ret (m_n ops 0) [.int 1] = _
      rw [e]
      rfl
    · have c1 := m_ff m_gt_iff c
      have j3 : j.toInt + 6 ≤ (xs.length : Int) := by omega
      have hok : m_ok j xs.length = true := z_ok j1 (by omega)
      refine LwP.I (ins := .aload_n 0) (by decide +kernel) (fun _ => rfl) ?_
      refine LwP.I (ins := .iload_n 3) (by decide +kernel) (fun _ => rfl) ?_
      refine LwP.I (i1 := 19) (L1 := sL j) (st1 := [.int (xs.getD j.toNatClampNeg 0)]) (h1 := h) (ins := .iaload) (by decide +kernel) (fun ops => ?_) ?_
      · show (bif true && (0 == 0 && m_ok j xs.length) then _ else _) = _
        rw [hok]
        rfl
      refine LwP.I (ins := .bipush 63) (by decide +kernel) (fun _ => rfl) ?_
      refine LwP.I (i1 := 21) (L1 := sL j) (st1 := [.int (xs.getD j.toNatClampNeg 0 &&& (Int8.ofInt 63).toInt32)]) (h1 := h) (ins := .iand) (by decide +kernel) (fun _ => rfl) ?_
      generalize (xs.getD j.toNatClampNeg 0 &&& (Int8.ofInt 63).toInt32) = v
      have k871 : ∀ h2, J h2 → LwP J xs 873 (sL j) [] h2 := by
        intro h2 g2
        have e7 : (j + Int32.ofInt 6).toInt = j.toInt + 6 := by
          have z : (Int32.ofInt 6).toInt = 6 := by decide
          exact (i32_add (by omega) (by omega)).trans (by omega)
        refine LwP.I (i1 := 874) (L1 := sL (j + Int32.ofInt 6)) (st1 := []) (h1 := h2) (ins := .iinc 3 6) (by decide +kernel) (fun _ => rfl) ?_
        refine LwP.G (t := 10) (by decide +kernel) ?_
        exact ih _ h2 g2 (fun q => absurd q (by omega)) (by omega) (by omega) (by omega)
      obtain ⟨pc, d, offs, len, hrow⟩ := isS_sp (show isS 21 lawSw = true by decide +kernel)
      by_cases hv : v.toInt < 0 ∨ 36 < v.toInt
      · obtain ⟨q, k1, k2⟩ := k871 h hJ
        refine ⟨q, Rn.step (i1 := 873) (L1 := sL j) (st1 := []) (h1 := h) ?_ k1, k2⟩
        unfold mstep
        rw [hrow]
        show (if v.toInt < 0 ∨ 36 < v.toInt then _ else _) = _
        rw [if_pos hv]
        rfl
      · obtain ⟨q, k1, k2⟩ := hstep j h hJ jz j1 j3 k871 v.toInt.toNat (by omega)
        refine ⟨q, Rn.step (i1 := m_n lawSw (v.toInt.toNat + 1)) (L1 := sL j) (st1 := []) (h1 := h) ?_ k1, k2⟩
        unfold mstep
        rw [hrow]
        show (if v.toInt < 0 ∨ 36 < v.toInt then _ else some (Sum.inl (m_n lawSw ((v.toInt - 0).toNat + 1), sL j, [], h))) = _
        rw [if_neg hv, Int.sub_zero]
theorem p_step {xs : List Int32} (hx6 : xs.length ≤ 6) (j : Int32) (h : MH) (hJ : JK h) (jz : j.toInt = 0 → h = h0) (j1 : 0 ≤ j.toInt) (j2 : j.toInt + 6 ≤ (xs.length : Int)) (k : ∀ h2, JK h2 → LwP JK xs 873 (sL j) [] h2) : ∀ q, q < 37 → LwP JK xs (m_n lawSw (q + 1)) (sL j) [] h := by
  have hx : xs.length ≤ 3072 := by omega
  have e := jz (by omega)
  subst e
  intro q hq
  have hq : q = 0 ∨ q = 1 ∨ q = 2 ∨ q = 3 ∨ q = 4 ∨ q = 5 ∨ q = 6 ∨ q = 7 ∨ q = 8 ∨ q = 9 ∨ q = 10 ∨ q = 11 ∨ q = 12 ∨ q = 13 ∨ q = 14 ∨ q = 15 ∨ q = 16 ∨ q = 17 ∨ q = 18 ∨ q = 19 ∨ q = 20 ∨ q = 21 ∨ q = 22 ∨ q = 23 ∨ q = 24 ∨ q = 25 ∨ q = 26 ∨ q = 27 ∨ q = 28 ∨ q = 29 ∨ q = 30 ∨ q = 31 ∨ q = 32 ∨ q = 33 ∨ q = 34 ∨ q = 35 ∨ q = 36 := by omega
  rcases hq with rfl | rfl | rfl | rfl | rfl | rfl | rfl | rfl | rfl | rfl | rfl | rfl | rfl | rfl | rfl | rfl | rfl | rfl | rfl | rfl | rfl | rfl | rfl | rfl | rfl | rfl | rfl | rfl | rfl | rfl | rfl | rfl | rfl | rfl | rfl | rfl | rfl
  · exact case_eq (R := 22) (n := 2) (y1 := 31) (y2 := 101) j1 j2 hx (by decide +kernel) (by decide) (pk_type hJ _ _ (pr_type (xs := xs) (j := j) hJ.1)) k
  · exact case_eq (R := 49) (n := 1) (y1 := 32) (y2 := 102) j1 j2 hx (by decide +kernel) (by decide) (pk_wipe hJ _ (pr_wipe (xs := xs) (j := j) hJ.1)) k
  · exact case_eq (R := 66) (n := 1) (y1 := 33) (y2 := 103) j1 j2 hx (by decide +kernel) (by decide) (pk_undo hJ _ (pr_undo (xs := xs) (j := j) hJ.1)) k
  · exact case_eq (R := 83) (n := 1) (y1 := 34) (y2 := 112) j1 j2 hx (by decide +kernel) (by decide) (pk_fault hJ _ (pq_fault (xs := xs) (j := j) hJ.1 J1.c J1.m J1_C J1_M)) k
  · exact case_eq (R := 100) (n := 2) (y1 := 35) (y2 := 115) j1 j2 hx (by decide +kernel) (by decide) (pk_rower hJ _ _ (pq_rower (xs := xs) (j := j) hJ.1 J1.c J1.m J1_C J1_M)) k
  · exact case_eq (R := 127) (n := 2) (y1 := 36) (y2 := 117) j1 j2 hx (by decide +kernel) (by decide) (pk_call hJ _ _ (pq_call (xs := xs) (j := j) hJ.1 J1.c J1.m J1_C J1_M)) k
  · exact case_eq (R := 154) (n := 2) (y1 := 37) (y2 := 118) j1 j2 hx (by decide +kernel) (by decide) (pe_river hJ _ _ (pr_river (xs := xs) (j := j) hJ.1)) k
  · exact case_eq (R := 181) (n := 3) (y1 := 40) (y2 := 119) j1 j2 hx (by decide +kernel) (by decide) (pk_event hJ _ _ _ (pr_event (xs := xs) (j := j) hJ.1)) k
  · exact case_eq (R := 218) (n := 0) (y1 := 41) (y2 := 120) j1 j2 hx (by decide +kernel) (by decide) (pk_back hJ (pr_back (xs := xs) (j := j) hJ.1)) k
  · exact case_eq (R := 225) (n := 1) (y1 := 42) (y2 := 121) j1 j2 hx (by decide +kernel) (by decide) (pk_read hJ _ (pr_read (xs := xs) (j := j) hJ.1)) k
  · exact case_eq (R := 242) (n := 2) (y1 := 43) (y2 := 130) j1 j2 hx (by decide +kernel) (by decide) (pk_at hJ _ _ (pq_at (xs := xs) (j := j) hJ.1 J1.c J1.m J1_C J1_M)) k
  · exact case_eq (R := 269) (n := 2) (y1 := 44) (y2 := 132) j1 j2 hx (by decide +kernel) (by decide) (pk_pulls hJ _ _ (pq_pulls (xs := xs) (j := j) hJ.1 J1.c J1.m J1_C J1_M)) k
  · exact case_eq (R := 296) (n := 2) (y1 := 45) (y2 := 134) j1 j2 hx (by decide +kernel) (by decide) (pk_done hJ _ _ (pq_done (xs := xs) (j := j) hJ.1 J1.c J1.m J1_C J1_M)) k
  · exact case_eq (R := 323) (n := 0) (y1 := 46) (y2 := 136) j1 j2 hx (by decide +kernel) (by decide) (pk_there hJ (pq_there (xs := xs) (j := j) hJ.1 J1.c J1.m J1_C J1_M)) k
  · exact case_eq (R := 330) (n := 1) (y1 := 47) (y2 := 138) j1 j2 hx (by decide +kernel) (by decide) (pk_grounded hJ _ (pq_grounded (xs := xs) (j := j) hJ.1 J1.c J1.m J1_C J1_M)) k
  · exact case_eq (R := 347) (n := 1) (y1 := 48) (y2 := 141) j1 j2 hx (by decide +kernel) (by decide) (pk_stray hJ _ (pq_stray (xs := xs) (j := j) hJ.1 J1.c J1.m J1_C J1_M)) k
  · exact case_eq (R := 364) (n := 0) (y1 := 49) (y2 := 143) j1 j2 hx (by decide +kernel) (by decide) (pe_best hJ h0_z (pq_best (xs := xs) (j := j) hJ.1 J1.c J1.m J1_C J1_M)) k
  · exact case_eq (R := 371) (n := 0) (y1 := 50) (y2 := 145) j1 j2 hx (by decide +kernel) (by decide) (pk_idle hJ (pq_idle (xs := xs) (j := j) hJ.1 J1.c J1.m J1_C J1_M)) k
  · exact case_eq (R := 378) (n := 1) (y1 := 51) (y2 := 147) j1 j2 hx (by decide +kernel) (by decide) (pe_swap hJ _ (pq_swap (xs := xs) (j := j) hJ.1 J1.c J1.m J1_C J1_M)) k
  · exact case_eq (R := 395) (n := 2) (y1 := 53) (y2 := 149) j1 j2 hx (by decide +kernel) (by decide) (pe_steer hJ _ _ (pq_steer (xs := xs) (j := j) hJ.1 J1.c J1.m J1_C J1_M)) k
  · exact case_eq (R := 422) (n := 2) (y1 := 54) (y2 := 151) j1 j2 hx (by decide +kernel) (by decide) (pe_stroke hJ _ _ (pq_stroke (xs := xs) (j := j) hJ.1 J1.c J1.m J1_C J1_M)) k
  · exact case_eq (R := 449) (n := 1) (y1 := 55) (y2 := 155) j1 j2 hx (by decide +kernel) (by decide) (pe_spare hJ _ (pq_spare (xs := xs) (j := j) hJ.1 J1.c J1.m J1_C J1_M)) k
  · exact case_eq (R := 466) (n := 2) (y1 := 58) (y2 := 156) j1 j2 hx (by decide +kernel) (by decide) (pk_seen hJ _ _ (pr_seen (xs := xs) (j := j) hJ.1)) k
  · exact case_eq (R := 493) (n := 0) (y1 := 59) (y2 := 157) j1 j2 hx (by decide +kernel) (by decide) (pk_forget hJ (pr_forget (xs := xs) (j := j) hJ.1)) k
  · exact case_eq (R := 500) (n := 0) (y1 := 60) (y2 := 160) j1 j2 hx (by decide +kernel) (by decide) (pe_never hJ (pq_never (xs := xs) (j := j) hJ.1 J1.c J1.m J1_C J1_M)) k
  · exact case_eq (R := 507) (n := 2) (y1 := 61) (y2 := 163) j1 j2 hx (by decide +kernel) (by decide) (pe_was hJ _ _ (pq_was (xs := xs) (j := j) hJ.1 J1.c J1.m J1_C J1_M)) k
  · exact case_eq (R := 534) (n := 1) (y1 := 64) (y2 := 165) j1 j2 hx (by decide +kernel) (by decide) (pe_ask hJ _ (pq_ask (xs := xs) (j := j) hJ.1 J1.c J1.m J1_C J1_M)) k
  · exact case_leq (R := 551) (n := 3) (y1 := 66) (y2 := 167) j1 j2 hx (by decide +kernel) (by decide) (pe_chance hJ _ _ _ (pq_chance (xs := xs) (j := j) hJ.1 J1.c J1.m J1_C J1_M)) k
  · exact case_eq (R := 589) (n := 3) (y1 := 69) (y2 := 169) j1 j2 hx (by decide +kernel) (by decide) (pe_years hJ _ _ _ (pq_years (xs := xs) (j := j) hJ.1 J1.c J1.m J1_C J1_M)) k
  · exact case_eq (R := 626) (n := 3) (y1 := 70) (y2 := 172) j1 j2 hx (by decide +kernel) (by decide) (pk_sheet hJ _ _ _ (pr_sheet (xs := xs) (j := j) hJ.1)) k
  · exact case_eq (R := 663) (n := 1) (y1 := 71) (y2 := 173) j1 j2 hx (by decide +kernel) (by decide) (pk_lose hJ _ (pr_lose (xs := xs) (j := j) hJ.1)) k
  · exact case_eq (R := 680) (n := 4) (y1 := 72) (y2 := 176) j1 j2 hx (by decide +kernel) (by decide) (pk_put hJ _ _ _ _ (pr_put (xs := xs) (j := j) hJ.1)) k
  · exact case_eq (R := 727) (n := 3) (y1 := 73) (y2 := 177) j1 j2 hx (by decide +kernel) (by decide) (pk_get hJ _ _ _ (pr_get (xs := xs) (j := j) hJ.1)) k
  · exact case_eq (R := 764) (n := 5) (y1 := 74) (y2 := 178) j1 j2 hx (by decide +kernel) (by decide) (pk_copy hJ _ _ _ _ _ (pr_copy (xs := xs) (j := j) hJ.1)) k
  · exact case_eq (R := 821) (n := 2) (y1 := 75) (y2 := 179) j1 j2 hx (by decide +kernel) (by decide) (pk_write hJ _ _ (pr_write (xs := xs) (j := j) hJ.1)) k
  · exact case_eq (R := 848) (n := 1) (y1 := 76) (y2 := 181) j1 j2 hx (by decide +kernel) (by decide) (pk_count hJ _ (pq_count (xs := xs) (j := j) hJ.1 J1.c J1.m J1_C J1_M)) k
  · exact case_leq (R := 865) (n := 0) (y1 := 77) (y2 := 185) j1 j2 hx (by decide +kernel) (by decide) (pe_digest hJ h0_z (pq_digest (xs := xs) (j := j) hJ.1 J1.c J1.m J1_C J1_M)) k
theorem law_ok (xs : List Int32) (hx : xs.length ≤ 6) : lawOK xs := by
  obtain ⟨h1, ⟨n, k1⟩, k2⟩ := law_fresh (law_loop1 (by omega) (fun j h hJ jz j1 j2 k => p_step hx j h hJ jz j1 j2 k) 3073 0 h0 JK_0 (fun _ => rfl) (by decide) (by decide) (by decide))
  obtain ⟨z1, z2⟩ := room_of (JK.c _ k2) (JK.m _ k2)
  exact ⟨n, h1, k1, z1, z2⟩
