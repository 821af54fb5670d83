/-! THE LAW: every case, then every script -/
def szc (c : AC) : Bool := match c with
  | .inl (_, n, _, _, _) => decide (n ≤ 300)
  | .inr (.inl (t, rs)) => decide (¬ t = 99) && decide (rs.length ≤ 300)
  | .inr (.inr (_, fs)) => decide (fs.length ≤ 300)
theorem sz_cell {c : AC} {x : ME} (g : gC c x) (hc : szc c = true) : szE x ≤ 300 := by
  obtain ⟨t, n, lo, hi, fz⟩ | ⟨t, rs⟩ | ⟨ci, fs⟩ := c
  · obtain ⟨l, rfl, hl, -⟩ := g
    have := of_decide_eq_true hc
    show l.length ≤ 300
    omega
  · obtain ⟨h1, h2⟩ := b_and hc
    rcases g with g | rfl
    · exact absurd g (of_decide_eq_true h1)
    · show (rs.map some).length ≤ 300
      rw [List.length_map]
      exact of_decide_eq_true h2
  · obtain ⟨vs, rfl, hl, -⟩ := g
    have := of_decide_eq_true hc
    show vs.length ≤ 300
    omega
def szH (H : AH) (lo n : Nat) : Bool := (List.range n).all (fun j => match H[lo + j]? with | some c => szc c | none => false)
theorem szH_sp {H : AH} {lo n a : Nat} {h : MH} {x : ME} (hs : szH H lo n = true) (g : gH H h) (h1 : lo ≤ a) (h2 : a < lo + n) (hx : h[a]? = some x) : szE x ≤ 300 := by
  have q := List.all_eq_true.mp hs (a - lo) (List.mem_range.mpr (by omega))
  rw [show lo + (a - lo) = a by omega] at q
  split at q
  · rename_i c hc
    obtain ⟨y, hy, gy⟩ := g.2 a c hc
    rw [hx] at hy
    cases hy
    exact sz_cell gy q
  · cases q
theorem szC : szH HCs 0 123 = true := by decide +kernel
theorem szM : szH HMs 123 30 = true := by decide +kernel
theorem zs_le : ∀ (h : MH), (∀ x ∈ h, szE x ≤ 300) → zs h ≤ 300 * h.length
  | [], _ => by decide
  | x :: h, q => by
    have ih := zs_le h (fun y hy => q y (List.mem_cons_of_mem _ hy))
    have := q x List.mem_cons_self
    show szE x + zs h ≤ 300 * (h.length + 1)
    omega
theorem room_of {h : MH} (g1 : gH HCs h) (g2 : gH HMs h) : h.length ≤ 600000 ∧ zs h ≤ 7302250 := by
  have hl : h.length = 153 := g1.1.symm.trans HCs_len
  refine ⟨by omega, Nat.le_trans (zs_le h (fun x hx => ?_)) (by omega)⟩
  obtain ⟨a, ha⟩ := List.getElem?_of_mem hx
  have hlt : a < 153 := by rw [← hl]; exact (List.getElem?_eq_some_iff.mp ha).1
  by_cases h1 : a < 123
  · exact szH_sp szC g1 (Nat.zero_le a) (by omega) ha
  · exact szH_sp szM g2 (by omega) (by omega) ha
theorem p_step {xs : List Int32} (hx : xs.length ≤ 3072) (j : Int32) (h : MH) (hJ : JK h) (j1 : 0 ≤ j.toInt) (j2 : j.toInt + 6 ≤ (xs.length : Int)) (k : ∀ h2, JK h2 → LwP JK xs 871 (sL j) [] h2) : ∀ q, q < 37 → LwP JK xs (m_n lawSw (q + 1)) (sL j) [] h := by
  intro q hq
  have hq : q = 0 ∨ q = 1 ∨ q = 2 ∨ q = 3 ∨ q = 4 ∨ q = 5 ∨ q = 6 ∨ q = 7 ∨ q = 8 ∨ q = 9 ∨ q = 10 ∨ q = 11 ∨ q = 12 ∨ q = 13 ∨ q = 14 ∨ q = 15 ∨ q = 16 ∨ q = 17 ∨ q = 18 ∨ q = 19 ∨ q = 20 ∨ q = 21 ∨ q = 22 ∨ q = 23 ∨ q = 24 ∨ q = 25 ∨ q = 26 ∨ q = 27 ∨ q = 28 ∨ q = 29 ∨ q = 30 ∨ q = 31 ∨ q = 32 ∨ q = 33 ∨ q = 34 ∨ q = 35 ∨ q = 36 := by omega
  rcases hq with rfl | rfl | rfl | rfl | rfl | rfl | rfl | rfl | rfl | rfl | rfl | rfl | rfl | rfl | rfl | rfl | rfl | rfl | rfl | rfl | rfl | rfl | rfl | rfl | rfl | rfl | rfl | rfl | rfl | rfl | rfl | rfl | rfl | rfl | rfl | rfl | rfl
  · exact case_pop (R := 22) (n := 2) (y1 := 31) (y2 := 101) j1 j2 hx (by decide +kernel) (by decide) (PairOK.mono (pk_type hJ _ _ (pr_type (xs := xs) (j := j) hJ.1)) (fun _ _ t => t.a) (fun _ q => q)) k
  · exact case_pop (R := 49) (n := 1) (y1 := 32) (y2 := 102) j1 j2 hx (by decide +kernel) (by decide) (PairOK.mono (pk_wipe hJ _ (pr_wipe (xs := xs) (j := j) hJ.1)) (fun _ _ t => t.a) (fun _ q => q)) k
  · exact case_pop (R := 66) (n := 1) (y1 := 33) (y2 := 103) j1 j2 hx (by decide +kernel) (by decide) (PairOK.mono (pk_undo hJ _ (pr_undo (xs := xs) (j := j) hJ.1)) (fun _ _ t => t.a) (fun _ q => q)) k
  · exact case_pop (R := 83) (n := 1) (y1 := 34) (y2 := 112) j1 j2 hx (by decide +kernel) (by decide) (PairOK.mono (pk_fault hJ _ (pq_fault (xs := xs) (j := j) hJ.1 J1.c J1.m J1_C J1_M)) (fun _ _ t => t.a) (fun _ q => q)) k
  · exact case_pop (R := 100) (n := 2) (y1 := 35) (y2 := 115) j1 j2 hx (by decide +kernel) (by decide) (PairOK.mono (pk_rower hJ _ _ (pq_rower (xs := xs) (j := j) hJ.1 J1.c J1.m J1_C J1_M)) (fun _ _ t => t.a) (fun _ q => q)) k
  · exact case_pop (R := 127) (n := 2) (y1 := 36) (y2 := 117) j1 j2 hx (by decide +kernel) (by decide) (PairOK.mono (pk_call hJ _ _ (pq_call (xs := xs) (j := j) hJ.1 J1.c J1.m J1_C J1_M)) (fun _ _ t => t.a) (fun _ q => q)) k
  · exact case_pop (R := 154) (n := 2) (y1 := 37) (y2 := 118) j1 j2 hx (by decide +kernel) (by decide) (pk_river hJ _ _ (pr_river (xs := xs) (j := j) hJ.1)) k
  · exact case_pop (R := 181) (n := 3) (y1 := 40) (y2 := 119) j1 j2 hx (by decide +kernel) (by decide) (PairOK.mono (pk_event hJ _ _ _ (pr_event (xs := xs) (j := j) hJ.1)) (fun _ _ t => t.a) (fun _ q => q)) k
  · exact case_pop (R := 218) (n := 0) (y1 := 41) (y2 := 120) j1 j2 hx (by decide +kernel) (by decide) (PairOK.mono (pk_back hJ (pr_back (xs := xs) (j := j) hJ.1)) (fun _ _ t => t.a) (fun _ q => q)) k
  · exact case_pop (R := 225) (n := 1) (y1 := 42) (y2 := 121) j1 j2 hx (by decide +kernel) (by decide) (PairOK.mono (pk_read hJ _ (pr_read (xs := xs) (j := j) hJ.1)) (fun _ _ t => t.a) (fun _ q => q)) k
  · exact case_pop (R := 242) (n := 2) (y1 := 43) (y2 := 130) j1 j2 hx (by decide +kernel) (by decide) (PairOK.mono (pk_at hJ _ _ (pq_at (xs := xs) (j := j) hJ.1 J1.c J1.m J1_C J1_M)) (fun _ _ t => t.a) (fun _ q => q)) k
  · exact case_pop (R := 269) (n := 2) (y1 := 44) (y2 := 132) j1 j2 hx (by decide +kernel) (by decide) (PairOK.mono (pk_pulls hJ _ _ (pq_pulls (xs := xs) (j := j) hJ.1 J1.c J1.m J1_C J1_M)) (fun _ _ t => t.a) (fun _ q => q)) k
  · exact case_pop (R := 296) (n := 2) (y1 := 45) (y2 := 134) j1 j2 hx (by decide +kernel) (by decide) (PairOK.mono (pk_done hJ _ _ (pq_done (xs := xs) (j := j) hJ.1 J1.c J1.m J1_C J1_M)) (fun _ _ t => t.a) (fun _ q => q)) k
  · exact case_pop (R := 323) (n := 0) (y1 := 46) (y2 := 136) j1 j2 hx (by decide +kernel) (by decide) (PairOK.mono (pk_there hJ (pq_there (xs := xs) (j := j) hJ.1 J1.c J1.m J1_C J1_M)) (fun _ _ t => t.a) (fun _ q => q)) k
  · exact case_pop (R := 330) (n := 1) (y1 := 47) (y2 := 138) j1 j2 hx (by decide +kernel) (by decide) (PairOK.mono (pk_grounded hJ _ (pq_grounded (xs := xs) (j := j) hJ.1 J1.c J1.m J1_C J1_M)) (fun _ _ t => t.a) (fun _ q => q)) k
  · exact case_pop (R := 347) (n := 1) (y1 := 48) (y2 := 141) j1 j2 hx (by decide +kernel) (by decide) (PairOK.mono (pk_stray hJ _ (pq_stray (xs := xs) (j := j) hJ.1 J1.c J1.m J1_C J1_M)) (fun _ _ t => t.a) (fun _ q => q)) k
  · exact case_pop (R := 364) (n := 0) (y1 := 49) (y2 := 143) j1 j2 hx (by decide +kernel) (by decide) (pk_best hJ (pq_best (xs := xs) (j := j) hJ.1 J1.c J1.m J1_C J1_M)) k
  · exact case_pop (R := 371) (n := 0) (y1 := 50) (y2 := 145) j1 j2 hx (by decide +kernel) (by decide) (PairOK.mono (pk_idle hJ (pq_idle (xs := xs) (j := j) hJ.1 J1.c J1.m J1_C J1_M)) (fun _ _ t => t.a) (fun _ q => q)) k
  · exact case_pop (R := 378) (n := 1) (y1 := 51) (y2 := 147) j1 j2 hx (by decide +kernel) (by decide) (pk_swap hJ _ (pq_swap (xs := xs) (j := j) hJ.1 J1.c J1.m J1_C J1_M)) k
  · exact case_pop (R := 395) (n := 2) (y1 := 53) (y2 := 149) j1 j2 hx (by decide +kernel) (by decide) (pk_steer hJ _ _ (pq_steer (xs := xs) (j := j) hJ.1 J1.c J1.m J1_C J1_M)) k
  · exact case_pop (R := 422) (n := 2) (y1 := 54) (y2 := 151) j1 j2 hx (by decide +kernel) (by decide) (pk_stroke hJ _ _ (pq_stroke (xs := xs) (j := j) hJ.1 J1.c J1.m J1_C J1_M)) k
  · exact case_eq (R := 449) (n := 1) (y1 := 55) (y2 := 155) j1 j2 hx (by decide +kernel) (by decide) (pe_spare hJ _ (pq_spare (xs := xs) (j := j) hJ.1 J1.c J1.m J1_C J1_M)) k
  · exact case_pop (R := 466) (n := 2) (y1 := 58) (y2 := 156) j1 j2 hx (by decide +kernel) (by decide) (PairOK.mono (pk_seen hJ _ _ (pr_seen (xs := xs) (j := j) hJ.1)) (fun _ _ t => t.a) (fun _ q => q)) k
  · exact case_pop (R := 493) (n := 0) (y1 := 59) (y2 := 157) j1 j2 hx (by decide +kernel) (by decide) (PairOK.mono (pk_forget hJ (pr_forget (xs := xs) (j := j) hJ.1)) (fun _ _ t => t.a) (fun _ q => q)) k
  · exact case_pop (R := 500) (n := 0) (y1 := 60) (y2 := 160) j1 j2 hx (by decide +kernel) (by decide) (pk_never hJ (pq_never (xs := xs) (j := j) hJ.1 J1.c J1.m J1_C J1_M)) k
  · exact case_pop (R := 507) (n := 2) (y1 := 61) (y2 := 163) j1 j2 hx (by decide +kernel) (by decide) (pk_was hJ _ _ (pq_was (xs := xs) (j := j) hJ.1 J1.c J1.m J1_C J1_M)) k
  · exact case_pop (R := 534) (n := 1) (y1 := 64) (y2 := 165) j1 j2 hx (by decide +kernel) (by decide) (pk_ask hJ _ (pq_ask (xs := xs) (j := j) hJ.1 J1.c J1.m J1_C J1_M)) k
  · exact case_pop2 (R := 551) (n := 3) (y1 := 66) (y2 := 167) j1 j2 hx (by decide +kernel) (by decide) (pk_chance hJ) k
  · exact case_pop (R := 588) (n := 3) (y1 := 69) (y2 := 169) j1 j2 hx (by decide +kernel) (by decide) (pk_years hJ _ _ _ (pq_years (xs := xs) (j := j) hJ.1 J1.c J1.m J1_C J1_M)) k
  · exact case_pop (R := 625) (n := 3) (y1 := 70) (y2 := 172) j1 j2 hx (by decide +kernel) (by decide) (PairOK.mono (pk_sheet hJ _ _ _ (pr_sheet (xs := xs) (j := j) hJ.1)) (fun _ _ t => t.a) (fun _ q => q)) k
  · exact case_pop (R := 662) (n := 1) (y1 := 71) (y2 := 173) j1 j2 hx (by decide +kernel) (by decide) (PairOK.mono (pk_lose hJ _ (pr_lose (xs := xs) (j := j) hJ.1)) (fun _ _ t => t.a) (fun _ q => q)) k
  · exact case_pop (R := 679) (n := 4) (y1 := 72) (y2 := 176) j1 j2 hx (by decide +kernel) (by decide) (PairOK.mono (pk_put hJ _ _ _ _ (pr_put (xs := xs) (j := j) hJ.1)) (fun _ _ t => t.a) (fun _ q => q)) k
  · exact case_pop (R := 726) (n := 3) (y1 := 73) (y2 := 177) j1 j2 hx (by decide +kernel) (by decide) (PairOK.mono (pk_get hJ _ _ _ (pr_get (xs := xs) (j := j) hJ.1)) (fun _ _ t => t.a) (fun _ q => q)) k
  · exact case_pop (R := 763) (n := 5) (y1 := 74) (y2 := 178) j1 j2 hx (by decide +kernel) (by decide) (PairOK.mono (pk_copy hJ _ _ _ _ _ (pr_copy (xs := xs) (j := j) hJ.1)) (fun _ _ t => t.a) (fun _ q => q)) k
  · exact case_pop (R := 820) (n := 2) (y1 := 75) (y2 := 179) j1 j2 hx (by decide +kernel) (by decide) (PairOK.mono (pk_write hJ _ _ (pr_write (xs := xs) (j := j) hJ.1)) (fun _ _ t => t.a) (fun _ q => q)) k
  · exact case_pop (R := 847) (n := 1) (y1 := 76) (y2 := 181) j1 j2 hx (by decide +kernel) (by decide) (PairOK.mono (pk_count hJ _ (pq_count (xs := xs) (j := j) hJ.1 J1.c J1.m J1_C J1_M)) (fun _ _ t => t.a) (fun _ q => q)) k
  · exact case_pop2 (R := 864) (n := 0) (y1 := 77) (y2 := 185) j1 j2 hx (by decide +kernel) (by decide) (pk_digest hJ) k
theorem law_ok (xs : List Int32) (hx : xs.length ≤ 3072) : lawOK xs := by
  obtain ⟨h1, ⟨n, k1⟩, k2⟩ := law_fresh (law_loop hx (fun j h hJ j1 j2 k => p_step hx j h hJ j1 j2 k) 3073 0 h0 JK_0 (by decide) (by decide) (by decide))
  obtain ⟨z1, z2⟩ := room_of (JK.c _ k2) (JK.m _ k2)
  exact ⟨n, h1, k1, z1, z2⟩
