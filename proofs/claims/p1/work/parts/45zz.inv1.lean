/-! the class's calls keep KF: told of their runs (printed by wip/u/mk_inv.py) -/
theorem KI_isBelow {s : SG} (h : KF s) (v : Int32) (n : Int32) : UP m_X6_isBelow 0 (m_ent 2 [.int v, .int n]) [] s KI := KI_i (ux_isBelow s v n) h
theorem KI_hasBit {s : SG} (h : KF s) (b : Int32) (k : Int32) : UP m_X6_hasBit 0 (m_ent 2 [.int b, .int k]) [] s KI := KI_i (ux_hasBit s b k) h
theorem KI_ithBit {s : SG} (h : KF s) (b : Int32) (i : Int32) : UP m_X6_ithBit 0 (m_ent 4 [.int b, .int i]) [] s KI := KI_i (ux_ithBit s b i) h
theorem KI_rower {s : SG} (h : KF s) (a : Int32) (b : Int32) : UP m_X6_rower 0 (m_ent 3 [.ref 0, .int a, .int b]) [] s KI := KI_i (ux_crower s a b) h
theorem KI_call {s : SG} (h : KF s) (a : Int32) (b : Int32) : UP m_X6_call 0 (m_ent 3 [.ref 0, .int a, .int b]) [] s KI := KI_i (ux_ccall s a b) h
theorem KI_count {s : SG} (h : KF s) (a : Int32) : UP m_X6_count 0 (m_ent 2 [.ref 0, .int a]) [] s KI := KI_i (ux_ccount s a) h
theorem KI_fault {s : SG} (h : KF s) (a : Int32) : UP m_X6_fault 0 (m_ent 2 [.ref 0, .int a]) [] s KI := KI_i (ux_cfault s a) h
theorem KI_at {s : SG} (h : KF s) (a : Int32) (b : Int32) : UP m_X6_at 0 (m_ent 4 [.ref 0, .int a, .int b]) [] s KI := KI_b (ux_cat s a b) (kf_at h a b)
theorem KI_pulls {s : SG} (h : KF s) (a : Int32) (b : Int32) : UP m_X6_pulls 0 (m_ent 3 [.ref 0, .int a, .int b]) [] s KI := KI_b (ux_cpulls s a b) (kf_pulls h a b)
theorem KI_done {s : SG} (h : KF s) (a : Int32) (b : Int32) : UP m_X6_done 0 (m_ent 4 [.ref 0, .int a, .int b]) [] s KI := KI_b (ux_cdone s a b) (kf_done h a b)
theorem KI_there {s : SG} (h : KF s)  : UP m_X6_there 0 (m_ent 1 [.ref 0]) [] s KI := KI_b (ux_cthere s ) (kf_there h )
theorem KI_grounded {s : SG} (h : KF s) (a : Int32) : UP m_X6_grounded 0 (m_ent 2 [.ref 0, .int a]) [] s KI := KI_b (ux_cgrounded s a) (kf_grounded h a)
theorem KI_stray {s : SG} (h : KF s) (a : Int32) : UP m_X6_stray 0 (m_ent 2 [.ref 0, .int a]) [] s KI := KI_b (ux_cstray s a) (kf_stray h a)
theorem KI_best {s : SG} (h : KF s)  : UP m_X6_best 0 (m_ent 4 [.ref 0]) [] s KI := KI_b (ux_cbest s ) (kf_best h )
theorem KI_idle {s : SG} (h : KF s)  : UP m_X6_idle 0 (m_ent 4 [.ref 0]) [] s KI := KI_b (ux_cidle s ) (kf_idle h )
theorem KI_swap {s : SG} (h : KF s) (a : Int32) : UP m_X6_swap 0 (m_ent 8 [.ref 0, .int a]) [] s KI := KI_b (ux_cswap s a) (kf_swap h a)
theorem KI_steer {s : SG} (h : KF s) (a : Int32) (b : Int32) : UP m_X6_steer 0 (m_ent 7 [.ref 0, .int a, .int b]) [] s KI := KI_b (ux_csteer s a b) (kf_steer h a b)
theorem KI_stroke {s : SG} (h : KF s) (a : Int32) (b : Int32) : UP m_X6_stroke 0 (m_ent 7 [.ref 0, .int a, .int b]) [] s KI := KI_b (ux_cstroke s a b) (kf_stroke h a b)
theorem KI_years {s : SG} (h : KF s) (a : Int32) (b : Int32) (c : Int32) : UP m_X6_years 0 (m_ent 6 [.ref 0, .int a, .int b, .int c]) [] s KI := KI_b (ux_cyears s a b c) (kf_years h a b c)
theorem KI_never {s : SG} (h : KF s)  : UP m_X6_never 0 (m_ent 3 [.ref 0]) [] s KI := KI_b (ux_cnever s ) (kf_never h )
theorem KI_was {s : SG} (h : KF s) (a : Int32) (b : Int32) : UP m_X6_was 0 (m_ent 3 [.ref 0, .int a, .int b]) [] s KI := KI_b (ux_cwas s a b) (kf_was h a b)
theorem KI_ask {s : SG} (h : KF s) (a : Int32) : UP m_X6_ask 0 (m_ent 7 [.ref 0, .int a]) [] s KI := KI_b (ux_cask s a) (kf_ask h a)
theorem kf_faw {s : SG} (h : KF s) (a : Int32) : KF (F_firstAgroundWith s a).2 := (faw h a).1
theorem KI_faw {s : SG} (h : KF s) (a : Int32) : UP m_X6_firstAgroundWith 0 (m_ent 2 [.ref 0, .int a]) [] s KI := KI_b (ux_firstAgroundWith s a) (kf_faw h a)
theorem KI_iab {s : SG} (h : KF s) (a : Int32) (b : Int32) : UP m_X6_isAgroundBy 0 (m_ent 4 [.ref 0, .int a, .int b]) [] s KI := KI_b (ux_isAgroundBy s a b) (kf_iab h a b)
theorem KI_bitCount {s : SG} (h : KF s) (b : Int32) : UP m_J6_bitCount_0f7a4 0 (m_ent 1 [.int b]) [] s KI := by
  refine UP.of_b (fun n => ?_)
  refine UPB.stp 41 (i1 := 41) (L1 := [some (.int (((((((b - (((Int32.toUInt32 b >>> (Int32.toUInt32 1 &&& Int32.toUInt32 31)).toInt32) &&& (1431655765 : Int32))) &&& (858993459 : Int32)) + (((Int32.toUInt32 (b - (((Int32.toUInt32 b >>> (Int32.toUInt32 1 &&& Int32.toUInt32 31)).toInt32) &&& (1431655765 : Int32))) >>> (Int32.toUInt32 2 &&& Int32.toUInt32 31)).toInt32) &&& (858993459 : Int32))) + ((Int32.toUInt32 (((b - (((Int32.toUInt32 b >>> (Int32.toUInt32 1 &&& Int32.toUInt32 31)).toInt32) &&& (1431655765 : Int32))) &&& (858993459 : Int32)) + (((Int32.toUInt32 (b - (((Int32.toUInt32 b >>> (Int32.toUInt32 1 &&& Int32.toUInt32 31)).toInt32) &&& (1431655765 : Int32))) >>> (Int32.toUInt32 2 &&& Int32.toUInt32 31)).toInt32) &&& (858993459 : Int32))) >>> (Int32.toUInt32 4 &&& Int32.toUInt32 31)).toInt32)) &&& (252645135 : Int32)) + ((Int32.toUInt32 (((((b - (((Int32.toUInt32 b >>> (Int32.toUInt32 1 &&& Int32.toUInt32 31)).toInt32) &&& (1431655765 : Int32))) &&& (858993459 : Int32)) + (((Int32.toUInt32 (b - (((Int32.toUInt32 b >>> (Int32.toUInt32 1 &&& Int32.toUInt32 31)).toInt32) &&& (1431655765 : Int32))) >>> (Int32.toUInt32 2 &&& Int32.toUInt32 31)).toInt32) &&& (858993459 : Int32))) + ((Int32.toUInt32 (((b - (((Int32.toUInt32 b >>> (Int32.toUInt32 1 &&& Int32.toUInt32 31)).toInt32) &&& (1431655765 : Int32))) &&& (858993459 : Int32)) + (((Int32.toUInt32 (b - (((Int32.toUInt32 b >>> (Int32.toUInt32 1 &&& Int32.toUInt32 31)).toInt32) &&& (1431655765 : Int32))) >>> (Int32.toUInt32 2 &&& Int32.toUInt32 31)).toInt32) &&& (858993459 : Int32))) >>> (Int32.toUInt32 4 &&& Int32.toUInt32 31)).toInt32)) &&& (252645135 : Int32)) >>> (Int32.toUInt32 8 &&& Int32.toUInt32 31)).toInt32)) + ((Int32.toUInt32 ((((((b - (((Int32.toUInt32 b >>> (Int32.toUInt32 1 &&& Int32.toUInt32 31)).toInt32) &&& (1431655765 : Int32))) &&& (858993459 : Int32)) + (((Int32.toUInt32 (b - (((Int32.toUInt32 b >>> (Int32.toUInt32 1 &&& Int32.toUInt32 31)).toInt32) &&& (1431655765 : Int32))) >>> (Int32.toUInt32 2 &&& Int32.toUInt32 31)).toInt32) &&& (858993459 : Int32))) + ((Int32.toUInt32 (((b - (((Int32.toUInt32 b >>> (Int32.toUInt32 1 &&& Int32.toUInt32 31)).toInt32) &&& (1431655765 : Int32))) &&& (858993459 : Int32)) + (((Int32.toUInt32 (b - (((Int32.toUInt32 b >>> (Int32.toUInt32 1 &&& Int32.toUInt32 31)).toInt32) &&& (1431655765 : Int32))) >>> (Int32.toUInt32 2 &&& Int32.toUInt32 31)).toInt32) &&& (858993459 : Int32))) >>> (Int32.toUInt32 4 &&& Int32.toUInt32 31)).toInt32)) &&& (252645135 : Int32)) + ((Int32.toUInt32 (((((b - (((Int32.toUInt32 b >>> (Int32.toUInt32 1 &&& Int32.toUInt32 31)).toInt32) &&& (1431655765 : Int32))) &&& (858993459 : Int32)) + (((Int32.toUInt32 (b - (((Int32.toUInt32 b >>> (Int32.toUInt32 1 &&& Int32.toUInt32 31)).toInt32) &&& (1431655765 : Int32))) >>> (Int32.toUInt32 2 &&& Int32.toUInt32 31)).toInt32) &&& (858993459 : Int32))) + ((Int32.toUInt32 (((b - (((Int32.toUInt32 b >>> (Int32.toUInt32 1 &&& Int32.toUInt32 31)).toInt32) &&& (1431655765 : Int32))) &&& (858993459 : Int32)) + (((Int32.toUInt32 (b - (((Int32.toUInt32 b >>> (Int32.toUInt32 1 &&& Int32.toUInt32 31)).toInt32) &&& (1431655765 : Int32))) >>> (Int32.toUInt32 2 &&& Int32.toUInt32 31)).toInt32) &&& (858993459 : Int32))) >>> (Int32.toUInt32 4 &&& Int32.toUInt32 31)).toInt32)) &&& (252645135 : Int32)) >>> (Int32.toUInt32 8 &&& Int32.toUInt32 31)).toInt32)) >>> (Int32.toUInt32 16 &&& Int32.toUInt32 31)).toInt32)))]) (st1 := [.int ((((((((b - (((Int32.toUInt32 b >>> (Int32.toUInt32 1 &&& Int32.toUInt32 31)).toInt32) &&& (1431655765 : Int32))) &&& (858993459 : Int32)) + (((Int32.toUInt32 (b - (((Int32.toUInt32 b >>> (Int32.toUInt32 1 &&& Int32.toUInt32 31)).toInt32) &&& (1431655765 : Int32))) >>> (Int32.toUInt32 2 &&& Int32.toUInt32 31)).toInt32) &&& (858993459 : Int32))) + ((Int32.toUInt32 (((b - (((Int32.toUInt32 b >>> (Int32.toUInt32 1 &&& Int32.toUInt32 31)).toInt32) &&& (1431655765 : Int32))) &&& (858993459 : Int32)) + (((Int32.toUInt32 (b - (((Int32.toUInt32 b >>> (Int32.toUInt32 1 &&& Int32.toUInt32 31)).toInt32) &&& (1431655765 : Int32))) >>> (Int32.toUInt32 2 &&& Int32.toUInt32 31)).toInt32) &&& (858993459 : Int32))) >>> (Int32.toUInt32 4 &&& Int32.toUInt32 31)).toInt32)) &&& (252645135 : Int32)) + ((Int32.toUInt32 (((((b - (((Int32.toUInt32 b >>> (Int32.toUInt32 1 &&& Int32.toUInt32 31)).toInt32) &&& (1431655765 : Int32))) &&& (858993459 : Int32)) + (((Int32.toUInt32 (b - (((Int32.toUInt32 b >>> (Int32.toUInt32 1 &&& Int32.toUInt32 31)).toInt32) &&& (1431655765 : Int32))) >>> (Int32.toUInt32 2 &&& Int32.toUInt32 31)).toInt32) &&& (858993459 : Int32))) + ((Int32.toUInt32 (((b - (((Int32.toUInt32 b >>> (Int32.toUInt32 1 &&& Int32.toUInt32 31)).toInt32) &&& (1431655765 : Int32))) &&& (858993459 : Int32)) + (((Int32.toUInt32 (b - (((Int32.toUInt32 b >>> (Int32.toUInt32 1 &&& Int32.toUInt32 31)).toInt32) &&& (1431655765 : Int32))) >>> (Int32.toUInt32 2 &&& Int32.toUInt32 31)).toInt32) &&& (858993459 : Int32))) >>> (Int32.toUInt32 4 &&& Int32.toUInt32 31)).toInt32)) &&& (252645135 : Int32)) >>> (Int32.toUInt32 8 &&& Int32.toUInt32 31)).toInt32)) + ((Int32.toUInt32 ((((((b - (((Int32.toUInt32 b >>> (Int32.toUInt32 1 &&& Int32.toUInt32 31)).toInt32) &&& (1431655765 : Int32))) &&& (858993459 : Int32)) + (((Int32.toUInt32 (b - (((Int32.toUInt32 b >>> (Int32.toUInt32 1 &&& Int32.toUInt32 31)).toInt32) &&& (1431655765 : Int32))) >>> (Int32.toUInt32 2 &&& Int32.toUInt32 31)).toInt32) &&& (858993459 : Int32))) + ((Int32.toUInt32 (((b - (((Int32.toUInt32 b >>> (Int32.toUInt32 1 &&& Int32.toUInt32 31)).toInt32) &&& (1431655765 : Int32))) &&& (858993459 : Int32)) + (((Int32.toUInt32 (b - (((Int32.toUInt32 b >>> (Int32.toUInt32 1 &&& Int32.toUInt32 31)).toInt32) &&& (1431655765 : Int32))) >>> (Int32.toUInt32 2 &&& Int32.toUInt32 31)).toInt32) &&& (858993459 : Int32))) >>> (Int32.toUInt32 4 &&& Int32.toUInt32 31)).toInt32)) &&& (252645135 : Int32)) + ((Int32.toUInt32 (((((b - (((Int32.toUInt32 b >>> (Int32.toUInt32 1 &&& Int32.toUInt32 31)).toInt32) &&& (1431655765 : Int32))) &&& (858993459 : Int32)) + (((Int32.toUInt32 (b - (((Int32.toUInt32 b >>> (Int32.toUInt32 1 &&& Int32.toUInt32 31)).toInt32) &&& (1431655765 : Int32))) >>> (Int32.toUInt32 2 &&& Int32.toUInt32 31)).toInt32) &&& (858993459 : Int32))) + ((Int32.toUInt32 (((b - (((Int32.toUInt32 b >>> (Int32.toUInt32 1 &&& Int32.toUInt32 31)).toInt32) &&& (1431655765 : Int32))) &&& (858993459 : Int32)) + (((Int32.toUInt32 (b - (((Int32.toUInt32 b >>> (Int32.toUInt32 1 &&& Int32.toUInt32 31)).toInt32) &&& (1431655765 : Int32))) >>> (Int32.toUInt32 2 &&& Int32.toUInt32 31)).toInt32) &&& (858993459 : Int32))) >>> (Int32.toUInt32 4 &&& Int32.toUInt32 31)).toInt32)) &&& (252645135 : Int32)) >>> (Int32.toUInt32 8 &&& Int32.toUInt32 31)).toInt32)) >>> (Int32.toUInt32 16 &&& Int32.toUInt32 31)).toInt32)) &&& (63 : Int32))]) (s1 := s) rfl ?_
  exact UPB.ret (r := some (.int ((((((((b - (((Int32.toUInt32 b >>> (Int32.toUInt32 1 &&& Int32.toUInt32 31)).toInt32) &&& (1431655765 : Int32))) &&& (858993459 : Int32)) + (((Int32.toUInt32 (b - (((Int32.toUInt32 b >>> (Int32.toUInt32 1 &&& Int32.toUInt32 31)).toInt32) &&& (1431655765 : Int32))) >>> (Int32.toUInt32 2 &&& Int32.toUInt32 31)).toInt32) &&& (858993459 : Int32))) + ((Int32.toUInt32 (((b - (((Int32.toUInt32 b >>> (Int32.toUInt32 1 &&& Int32.toUInt32 31)).toInt32) &&& (1431655765 : Int32))) &&& (858993459 : Int32)) + (((Int32.toUInt32 (b - (((Int32.toUInt32 b >>> (Int32.toUInt32 1 &&& Int32.toUInt32 31)).toInt32) &&& (1431655765 : Int32))) >>> (Int32.toUInt32 2 &&& Int32.toUInt32 31)).toInt32) &&& (858993459 : Int32))) >>> (Int32.toUInt32 4 &&& Int32.toUInt32 31)).toInt32)) &&& (252645135 : Int32)) + ((Int32.toUInt32 (((((b - (((Int32.toUInt32 b >>> (Int32.toUInt32 1 &&& Int32.toUInt32 31)).toInt32) &&& (1431655765 : Int32))) &&& (858993459 : Int32)) + (((Int32.toUInt32 (b - (((Int32.toUInt32 b >>> (Int32.toUInt32 1 &&& Int32.toUInt32 31)).toInt32) &&& (1431655765 : Int32))) >>> (Int32.toUInt32 2 &&& Int32.toUInt32 31)).toInt32) &&& (858993459 : Int32))) + ((Int32.toUInt32 (((b - (((Int32.toUInt32 b >>> (Int32.toUInt32 1 &&& Int32.toUInt32 31)).toInt32) &&& (1431655765 : Int32))) &&& (858993459 : Int32)) + (((Int32.toUInt32 (b - (((Int32.toUInt32 b >>> (Int32.toUInt32 1 &&& Int32.toUInt32 31)).toInt32) &&& (1431655765 : Int32))) >>> (Int32.toUInt32 2 &&& Int32.toUInt32 31)).toInt32) &&& (858993459 : Int32))) >>> (Int32.toUInt32 4 &&& Int32.toUInt32 31)).toInt32)) &&& (252645135 : Int32)) >>> (Int32.toUInt32 8 &&& Int32.toUInt32 31)).toInt32)) + ((Int32.toUInt32 ((((((b - (((Int32.toUInt32 b >>> (Int32.toUInt32 1 &&& Int32.toUInt32 31)).toInt32) &&& (1431655765 : Int32))) &&& (858993459 : Int32)) + (((Int32.toUInt32 (b - (((Int32.toUInt32 b >>> (Int32.toUInt32 1 &&& Int32.toUInt32 31)).toInt32) &&& (1431655765 : Int32))) >>> (Int32.toUInt32 2 &&& Int32.toUInt32 31)).toInt32) &&& (858993459 : Int32))) + ((Int32.toUInt32 (((b - (((Int32.toUInt32 b >>> (Int32.toUInt32 1 &&& Int32.toUInt32 31)).toInt32) &&& (1431655765 : Int32))) &&& (858993459 : Int32)) + (((Int32.toUInt32 (b - (((Int32.toUInt32 b >>> (Int32.toUInt32 1 &&& Int32.toUInt32 31)).toInt32) &&& (1431655765 : Int32))) >>> (Int32.toUInt32 2 &&& Int32.toUInt32 31)).toInt32) &&& (858993459 : Int32))) >>> (Int32.toUInt32 4 &&& Int32.toUInt32 31)).toInt32)) &&& (252645135 : Int32)) + ((Int32.toUInt32 (((((b - (((Int32.toUInt32 b >>> (Int32.toUInt32 1 &&& Int32.toUInt32 31)).toInt32) &&& (1431655765 : Int32))) &&& (858993459 : Int32)) + (((Int32.toUInt32 (b - (((Int32.toUInt32 b >>> (Int32.toUInt32 1 &&& Int32.toUInt32 31)).toInt32) &&& (1431655765 : Int32))) >>> (Int32.toUInt32 2 &&& Int32.toUInt32 31)).toInt32) &&& (858993459 : Int32))) + ((Int32.toUInt32 (((b - (((Int32.toUInt32 b >>> (Int32.toUInt32 1 &&& Int32.toUInt32 31)).toInt32) &&& (1431655765 : Int32))) &&& (858993459 : Int32)) + (((Int32.toUInt32 (b - (((Int32.toUInt32 b >>> (Int32.toUInt32 1 &&& Int32.toUInt32 31)).toInt32) &&& (1431655765 : Int32))) >>> (Int32.toUInt32 2 &&& Int32.toUInt32 31)).toInt32) &&& (858993459 : Int32))) >>> (Int32.toUInt32 4 &&& Int32.toUInt32 31)).toInt32)) &&& (252645135 : Int32)) >>> (Int32.toUInt32 8 &&& Int32.toUInt32 31)).toInt32)) >>> (Int32.toUInt32 16 &&& Int32.toUInt32 31)).toInt32)) &&& (63 : Int32)))) rfl ⟨⟨_, rfl⟩, h⟩
theorem KL_weightOf_hd : ∀ n, (∀ (v1 : Int32) (v2 : Int32) (v3 : Int64) (u4 : Option Value) (v5 : Int32) (s : SG), KF s → UPB n m_X6_weightOf 4 [some (.ref 0), some (.int v1), some (.int v2), some (.long v3), u4, some (.int v5)] [] s KL) := by
  intro n
  induction n with
  | zero => exact fun _ _ _ _ _ _ _ => UPB.zero
  | succ n ih =>
    have IH4 := ih
    intro v1 v2 v3 u4 v5 s h
    refine UPB.hd 3 (i1 := 8) (L1 := [some (.ref 0), some (.int v1), some (.int v2), some (.long v3), u4, some (.int v5)]) (st1 := [.int (s 2 3), .int v5]) (s1 := s) rfl ?_
    refine UPB.ic rfl ?_ ?_
    · skip
      refine UPB.stp 1 (i1 := 26) (L1 := [some (.ref 0), some (.int v1), some (.int v2), some (.long v3), u4, some (.int v5)]) (st1 := [.long v3]) (s1 := s) rfl ?_
      exact UPB.ret (r := some (.long v3)) rfl ⟨⟨_, rfl⟩, h⟩
    · skip
      refine UPB.stp 3 (i1 := 12) (L1 := [some (.ref 0), some (.int v1), some (.int v2), some (.long v3), u4, some (.int v5)]) (st1 := [.int v5, .int v1, .long v3]) (s1 := s) rfl ?_
      refine UPB.cI (M1 := m_X6_hasBit) (as := [.int v1, .int v5]) (rest := [.long v3]) rfl rfl (KI_hasBit h v1 v5) (fun x1 s2 h3 => ?_)
      refine UPB.ifc rfl ?_ ?_
      · skip
        refine UPB.stp 8 (i1 := 4) (L1 := [some (.ref 0), some (.int v1), some (.int v2), some (.long (v3 * ((16 - v2).toInt64))), u4, some (.int (v5 + 1))]) (st1 := []) (s1 := s2) rfl ?_
        exact IH4 v1 v2 (v3 * ((16 - v2).toInt64)) u4 (v5 + 1) s2 h3
      · skip
        refine UPB.stp 7 (i1 := 4) (L1 := [some (.ref 0), some (.int v1), some (.int v2), some (.long (v3 * v2.toInt64)), u4, some (.int (v5 + 1))]) (st1 := []) (s1 := s2) rfl ?_
        exact IH4 v1 v2 (v3 * v2.toInt64) u4 (v5 + 1) s2 h3
theorem KL_weightOf {s : SG} (h : KF s) (a : Int32) (b : Int32) : UP m_X6_weightOf 0 (m_ent 6 [.ref 0, .int a, .int b]) [] s KL := by
  refine UP.of_b (fun n => ?_)
  have IH4 := KL_weightOf_hd n
  refine UPB.stp 4 (i1 := 4) (L1 := [some (.ref 0), some (.int a), some (.int b), some (.long 1), none, some (.int 0)]) (st1 := []) (s1 := s) rfl ?_
  exact IH4 a b 1 none 0 s h
theorem KI_spared_hd : ∀ n, (∀ (v1 : Int32) (v2 : Int32) (u3 : Option Value) (u4 : Option Value) (s : SG), KF s → UPB n m_X6_sparedEvents 17 [some (.ref 0), some (.int v1), some (.int v2), u3, u4] [] s KI) ∧ (∀ (v1 : Int32) (v2 : Int32) (u3 : Option Value) (u4 : Option Value) (s : SG), KF s → UPB n m_X6_sparedEvents 41 [some (.ref 0), some (.int v1), some (.int v2), u3, u4] [] s KI) ∧ (∀ (v1 : Int32) (v2 : Int32) (v3 : Int32) (u4 : Option Value) (s : SG), KF s → UPB n m_X6_sparedEvents 50 [some (.ref 0), some (.int v1), some (.int v2), some (.int v3), u4] [] s KI) := by
  intro n
  induction n with
  | zero => exact ⟨fun _ _ _ _ _ _ => UPB.zero, fun _ _ _ _ _ _ => UPB.zero, fun _ _ _ _ _ _ => UPB.zero⟩
  | succ n ih =>
    obtain ⟨IH17, IH41, IH50⟩ := ih
    refine ⟨?_, ?_, ?_⟩
    · intro v1 v2 u3 u4 s h
      refine UPB.hd 3 (i1 := 21) (L1 := [some (.ref 0), some (.int v1), some (.int v2), u3, u4]) (st1 := [.int (s 2 3), .int v2]) (s1 := s) rfl ?_
      refine UPB.ic rfl ?_ ?_
      · skip
        refine UPB.stp 2 (i1 := 41) (L1 := [some (.ref 0), some (.int v1), some (.int 0), u3, u4]) (st1 := []) (s1 := s) rfl ?_
        exact IH41 v1 0 u3 u4 s h
      · skip
        refine UPB.stp 8 (i1 := 30) (L1 := [some (.ref 0), some (.int v1), some (.int v2), u3, u4]) (st1 := [.int (v1 &&& ((1 <<< (v2 &&& 31)) ^^^ (-1 : Int32))), .ref 0]) (s1 := s) rfl ?_
        refine UPB.cI (M1 := m_X6_firstAgroundWith) (as := [.ref 0, .int (v1 &&& ((1 <<< (v2 &&& 31)) ^^^ (-1 : Int32)))]) (rest := []) rfl rfl (KI_faw h (v1 &&& ((1 <<< (v2 &&& 31)) ^^^ (-1 : Int32)))) (fun x4 s5 h6 => ?_)
        refine UPB.stp 1 (i1 := 32) (L1 := [some (.ref 0), some (.int v1), some (.int v2), u3, u4]) (st1 := [.int (-1), .int x4]) (s1 := s5) rfl ?_
        refine UPB.ic rfl ?_ ?_
        · skip
          refine UPB.stp 2 (i1 := 17) (L1 := [some (.ref 0), some (.int v1), some (.int (v2 + 1)), u3, u4]) (st1 := []) (s1 := s5) rfl ?_
          exact IH17 v1 (v2 + 1) u3 u4 s5 h6
        · skip
          refine UPB.stp 3 (i1 := 36) (L1 := [some (.ref 0), some (.int v1), some (.int v2), u3, u4]) (st1 := [.int (1 <<< (v2 &&& 31))]) (s1 := s5) rfl ?_
          exact UPB.ret (r := some (.int (1 <<< (v2 &&& 31)))) rfl ⟨⟨_, rfl⟩, h6⟩
    · intro v1 v2 u3 u4 s h
      refine UPB.hd 3 (i1 := 45) (L1 := [some (.ref 0), some (.int v1), some (.int v2), u3, u4]) (st1 := [.int (s 2 3), .int v2]) (s1 := s) rfl ?_
      refine UPB.ic rfl ?_ ?_
      · skip
        refine UPB.stp 1 (i1 := 79) (L1 := [some (.ref 0), some (.int v1), some (.int v2), u3, u4]) (st1 := [.int (-1)]) (s1 := s) rfl ?_
        exact UPB.ret (r := some (.int (-1))) rfl ⟨⟨_, rfl⟩, h⟩
      · skip
        refine UPB.stp 4 (i1 := 50) (L1 := [some (.ref 0), some (.int v1), some (.int v2), some (.int (v2 + 1)), u4]) (st1 := []) (s1 := s) rfl ?_
        exact IH50 v1 v2 (v2 + 1) u4 s h
    · intro v1 v2 v3 u4 s h
      refine UPB.hd 3 (i1 := 54) (L1 := [some (.ref 0), some (.int v1), some (.int v2), some (.int v3), u4]) (st1 := [.int (s 2 3), .int v3]) (s1 := s) rfl ?_
      refine UPB.ic rfl ?_ ?_
      · skip
        refine UPB.stp 2 (i1 := 41) (L1 := [some (.ref 0), some (.int v1), some (.int (v2 + 1)), some (.int v3), u4]) (st1 := []) (s1 := s) rfl ?_
        exact IH41 v1 (v2 + 1) (some (.int v3)) u4 s h
      · skip
        refine UPB.stp 14 (i1 := 69) (L1 := [some (.ref 0), some (.int v1), some (.int v2), some (.int v3), some (.int ((1 <<< (v2 &&& 31)) ||| (1 <<< (v3 &&& 31))))]) (st1 := [.int (v1 &&& (((1 <<< (v2 &&& 31)) ||| (1 <<< (v3 &&& 31))) ^^^ (-1 : Int32))), .ref 0]) (s1 := s) rfl ?_
        refine UPB.cI (M1 := m_X6_firstAgroundWith) (as := [.ref 0, .int (v1 &&& (((1 <<< (v2 &&& 31)) ||| (1 <<< (v3 &&& 31))) ^^^ (-1 : Int32)))]) (rest := []) rfl rfl (KI_faw h (v1 &&& (((1 <<< (v2 &&& 31)) ||| (1 <<< (v3 &&& 31))) ^^^ (-1 : Int32)))) (fun x7 s8 h9 => ?_)
        refine UPB.stp 1 (i1 := 71) (L1 := [some (.ref 0), some (.int v1), some (.int v2), some (.int v3), some (.int ((1 <<< (v2 &&& 31)) ||| (1 <<< (v3 &&& 31))))]) (st1 := [.int (-1), .int x7]) (s1 := s8) rfl ?_
        refine UPB.ic rfl ?_ ?_
        · skip
          refine UPB.stp 2 (i1 := 50) (L1 := [some (.ref 0), some (.int v1), some (.int v2), some (.int (v3 + 1)), some (.int ((1 <<< (v2 &&& 31)) ||| (1 <<< (v3 &&& 31))))]) (st1 := []) (s1 := s8) rfl ?_
          exact IH50 v1 v2 (v3 + 1) (some (.int ((1 <<< (v2 &&& 31)) ||| (1 <<< (v3 &&& 31))))) s8 h9
        · skip
          refine UPB.stp 1 (i1 := 73) (L1 := [some (.ref 0), some (.int v1), some (.int v2), some (.int v3), some (.int ((1 <<< (v2 &&& 31)) ||| (1 <<< (v3 &&& 31))))]) (st1 := [.int ((1 <<< (v2 &&& 31)) ||| (1 <<< (v3 &&& 31)))]) (s1 := s8) rfl ?_
          exact UPB.ret (r := some (.int ((1 <<< (v2 &&& 31)) ||| (1 <<< (v3 &&& 31))))) rfl ⟨⟨_, rfl⟩, h9⟩
theorem KI_spared {s : SG} (h : KF s)  : UP m_X6_sparedEvents 0 (m_ent 5 [.ref 0]) [] s KI := by
  refine UP.of_b (fun n => ?_)
  obtain ⟨IH17, IH41, IH50⟩ := KI_spared_hd n
  refine UPB.stp 10 (i1 := 10) (L1 := [some (.ref 0), some (.int ((1 <<< ((s 2 3) &&& 31)) - 1)), none, none, none]) (st1 := [.int ((1 <<< ((s 2 3) &&& 31)) - 1), .ref 0]) (s1 := s) rfl ?_
  refine UPB.cI (M1 := m_X6_firstAgroundWith) (as := [.ref 0, .int ((1 <<< ((s 2 3) &&& 31)) - 1)]) (rest := []) rfl rfl (KI_faw h ((1 <<< ((s 2 3) &&& 31)) - 1)) (fun x1 s2 h3 => ?_)
  refine UPB.stp 1 (i1 := 12) (L1 := [some (.ref 0), some (.int ((1 <<< ((s 2 3) &&& 31)) - 1)), none, none, none]) (st1 := [.int (-1), .int x1]) (s1 := s2) rfl ?_
  refine UPB.ic rfl ?_ ?_
  · skip
    refine UPB.stp 2 (i1 := 17) (L1 := [some (.ref 0), some (.int ((1 <<< ((s 2 3) &&& 31)) - 1)), some (.int 0), none, none]) (st1 := []) (s1 := s2) rfl ?_
    exact IH17 ((1 <<< ((s 2 3) &&& 31)) - 1) 0 none none s2 h3
  · skip
    refine UPB.stp 1 (i1 := 14) (L1 := [some (.ref 0), some (.int ((1 <<< ((s 2 3) &&& 31)) - 1)), none, none, none]) (st1 := [.int 0]) (s1 := s2) rfl ?_
    exact UPB.ret (r := some (.int 0)) rfl ⟨⟨_, rfl⟩, h3⟩
theorem KI_spare {s : SG} (h : KF s) (a : Int32) : UP m_X6_spare 0 (m_ent 3 [.ref 0, .int a]) [] s KI := by
  refine UP.of_b (fun n => ?_)
  refine UPB.stp 2 (i1 := 2) (L1 := [some (.ref 0), some (.int a), none]) (st1 := [.int (-1), .int a]) (s1 := s) rfl ?_
  refine UPB.ic rfl ?_ ?_
  · skip
    refine UPB.stp 1 (i1 := 7) (L1 := [some (.ref 0), some (.int a), none]) (st1 := [.int (-2)]) (s1 := s) rfl ?_
    exact UPB.ret (r := some (.int (-2))) rfl ⟨⟨_, rfl⟩, h⟩
  · skip
    refine UPB.stp 2 (i1 := 5) (L1 := [some (.ref 0), some (.int a), none]) (st1 := [.int 2, .int a]) (s1 := s) rfl ?_
    refine UPB.ic rfl ?_ ?_
    · skip
      refine UPB.stp 1 (i1 := 9) (L1 := [some (.ref 0), some (.int a), none]) (st1 := [.ref 0]) (s1 := s) rfl ?_
      refine UPB.cI (M1 := m_X6_sparedEvents) (as := [.ref 0]) (rest := []) rfl rfl (KI_spared h) (fun x1 s2 h3 => ?_)
      refine UPB.stp 3 (i1 := 13) (L1 := [some (.ref 0), some (.int a), some (.int x1)]) (st1 := [.int (-1), .int x1]) (s1 := s2) rfl ?_
      refine UPB.ic rfl ?_ ?_
      · skip
        refine UPB.stp 2 (i1 := 18) (L1 := [some (.ref 0), some (.int a), some (.int x1)]) (st1 := [.int (-1), .int a]) (s1 := s2) rfl ?_
        refine UPB.ic rfl ?_ ?_
        · skip
          refine UPB.stp 2 (i1 := 24) (L1 := [some (.ref 0), some (.int a), some (.int x1)]) (st1 := [.int a, .int x1]) (s1 := s2) rfl ?_
          refine UPB.cI (M1 := m_X6_ithBit) (as := [.int x1, .int a]) (rest := []) rfl rfl (KI_ithBit h3 x1 a) (fun x4 s5 h6 => ?_)
          exact UPB.ret (r := some (.int x4)) rfl ⟨⟨_, rfl⟩, h6⟩
        · skip
          refine UPB.stp 1 (i1 := 20) (L1 := [some (.ref 0), some (.int a), some (.int x1)]) (st1 := [.int x1]) (s1 := s2) rfl ?_
          refine UPB.cI (M1 := m_J6_bitCount_0f7a4) (as := [.int x1]) (rest := []) rfl rfl (KI_bitCount h3 x1) (fun x7 s8 h9 => ?_)
          refine UPB.stp 1 (i1 := 25) (L1 := [some (.ref 0), some (.int a), some (.int x1)]) (st1 := [.int x7]) (s1 := s8) rfl ?_
          exact UPB.ret (r := some (.int x7)) rfl ⟨⟨_, rfl⟩, h9⟩
      · skip
        refine UPB.stp 1 (i1 := 15) (L1 := [some (.ref 0), some (.int a), some (.int x1)]) (st1 := [.int (-1)]) (s1 := s2) rfl ?_
        exact UPB.ret (r := some (.int (-1))) rfl ⟨⟨_, rfl⟩, h3⟩
    · skip
      refine UPB.stp 1 (i1 := 7) (L1 := [some (.ref 0), some (.int a), none]) (st1 := [.int (-2)]) (s1 := s) rfl ?_
      exact UPB.ret (r := some (.int (-2))) rfl ⟨⟨_, rfl⟩, h⟩
theorem KL_chance_hd : ∀ n, (∀ (v1 : Int32) (v2 : Int32) (v3 : Int32) (v4 : Int64) (u5 : Option Value) (v6 : Int32) (u7 : Option Value) (u8 : Option Value) (s : SG), KF s → UPB n m_X6_chance 18 [some (.ref 0), some (.int v1), some (.int v2), some (.int v3), some (.long v4), u5, some (.int v6), u7, u8] [] s KL) ∧ (∀ (v1 : Int32) (v2 : Int32) (v3 : Int32) (v4 : Int64) (u5 : Option Value) (v6 : Int64) (u7 : Option Value) (v8 : Int32) (s : SG), KF s → UPB n m_X6_chance 55 [some (.ref 0), some (.int v1), some (.int v2), some (.int v3), some (.long v4), u5, some (.long v6), u7, some (.int v8)] [] s KL) := by
  intro n
  induction n with
  | zero => exact ⟨fun _ _ _ _ _ _ _ _ _ _ => UPB.zero, fun _ _ _ _ _ _ _ _ _ _ => UPB.zero⟩
  | succ n ih =>
    obtain ⟨IH18, IH55⟩ := ih
    refine ⟨?_, ?_⟩
    · intro v1 v2 v3 v4 u5 v6 u7 u8 s h
      refine UPB.hd 5 (i1 := 24) (L1 := [some (.ref 0), some (.int v1), some (.int v2), some (.int v3), some (.long v4), u5, some (.int v6), u7, u8]) (st1 := [.int (1 <<< ((s 2 3) &&& 31)), .int v6]) (s1 := s) rfl ?_
      refine UPB.ic rfl ?_ ?_
      · skip
        refine UPB.stp 10 (i1 := 55) (L1 := [some (.ref 0), some (.int v1), some (.int v2), some (.int v3), some (.long v4), u5, some (.long (1 <<< ((4 * (s 2 3)).toInt64 &&& 63))), u7, some (.int 0)]) (st1 := []) (s1 := s) rfl ?_
        exact IH55 v1 v2 v3 v4 u5 (1 <<< ((4 * (s 2 3)).toInt64 &&& 63)) u7 0 s h
      · skip
        refine UPB.stp 3 (i1 := 28) (L1 := [some (.ref 0), some (.int v1), some (.int v2), some (.int v3), some (.long v4), u5, some (.int v6), u7, u8]) (st1 := [.int v1, .int v6, .ref 0]) (s1 := s) rfl ?_
        refine UPB.cL (M1 := m_X6_weightOf) (as := [.ref 0, .int v6, .int v1]) (rest := []) rfl rfl (KL_weightOf h v6 v1) (fun x10 s11 h12 => ?_)
        refine UPB.stp 4 (i1 := 33) (L1 := [some (.ref 0), some (.int v1), some (.int v2), some (.int v3), some (.long v4), u5, some (.int v6), some (.long x10), u8]) (st1 := [.int (lg_cmp x10 0)]) (s1 := s11) rfl ?_
        refine UPB.ifc rfl ?_ ?_
        · skip
          refine UPB.stp 2 (i1 := 18) (L1 := [some (.ref 0), some (.int v1), some (.int v2), some (.int v3), some (.long v4), u5, some (.int (v6 + 1)), some (.long x10), u8]) (st1 := []) (s1 := s11) rfl ?_
          exact IH18 v1 v2 v3 v4 u5 (v6 + 1) (some (.long x10)) u8 s11 h12
        · skip
          refine UPB.stp 3 (i1 := 37) (L1 := [some (.ref 0), some (.int v1), some (.int v2), some (.int v3), some (.long v4), u5, some (.int v6), some (.long x10), u8]) (st1 := [.int v6, .int v2, .ref 0]) (s1 := s11) rfl ?_
          refine UPB.cI (M1 := m_X6_isAgroundBy) (as := [.ref 0, .int v2, .int v6]) (rest := []) rfl rfl (KI_iab h12 v2 v6) (fun x13 s14 h15 => ?_)
          refine UPB.ifc rfl ?_ ?_
          · skip
            refine UPB.stp 2 (i1 := 18) (L1 := [some (.ref 0), some (.int v1), some (.int v2), some (.int v3), some (.long v4), u5, some (.int (v6 + 1)), some (.long x10), u8]) (st1 := []) (s1 := s14) rfl ?_
            exact IH18 v1 v2 v3 v4 u5 (v6 + 1) (some (.long x10)) u8 s14 h15
          · skip
            refine UPB.stp 6 (i1 := 18) (L1 := [some (.ref 0), some (.int v1), some (.int v2), some (.int v3), some (.long (v4 + x10)), u5, some (.int (v6 + 1)), some (.long x10), u8]) (st1 := []) (s1 := s14) rfl ?_
            exact IH18 v1 v2 v3 (v4 + x10) u5 (v6 + 1) (some (.long x10)) u8 s14 h15
    · intro v1 v2 v3 v4 u5 v6 u7 v8 s h
      refine UPB.hd 1 (i1 := 57) (L1 := [some (.ref 0), some (.int v1), some (.int v2), some (.int v3), some (.long v4), u5, some (.long v6), u7, some (.int v8)]) (st1 := [.int 32, .int v8]) (s1 := s) rfl ?_
      refine UPB.ic rfl ?_ ?_
      · skip
        refine UPB.stp 1 (i1 := 79) (L1 := [some (.ref 0), some (.int v1), some (.int v2), some (.int v3), some (.long v4), u5, some (.long v6), u7, some (.int v8)]) (st1 := [.int v3]) (s1 := s) rfl ?_
        refine UPB.ifc rfl ?_ ?_
        · skip
          refine UPB.stp 1 (i1 := 83) (L1 := [some (.ref 0), some (.int v1), some (.int v2), some (.int v3), some (.long v4), u5, some (.long v6), u7, some (.int v8)]) (st1 := [.long v6]) (s1 := s) rfl ?_
          exact UPB.ret (r := some (.long v6)) rfl ⟨⟨_, rfl⟩, h⟩
        · skip
          refine UPB.stp 2 (i1 := 83) (L1 := [some (.ref 0), some (.int v1), some (.int v2), some (.int v3), some (.long v4), u5, some (.long v6), u7, some (.int v8)]) (st1 := [.long v4]) (s1 := s) rfl ?_
          exact UPB.ret (r := some (.long v4)) rfl ⟨⟨_, rfl⟩, h⟩
      · skip
        refine UPB.stp 3 (i1 := 61) (L1 := [some (.ref 0), some (.int v1), some (.int v2), some (.int v3), some (.long v4), u5, some (.long v6), u7, some (.int v8)]) (st1 := [.int (lg_cmp v6 1)]) (s1 := s) rfl ?_
        refine UPB.ifc rfl ?_ ?_
        · skip
          refine UPB.stp 1 (i1 := 79) (L1 := [some (.ref 0), some (.int v1), some (.int v2), some (.int v3), some (.long v4), u5, some (.long v6), u7, some (.int v8)]) (st1 := [.int v3]) (s1 := s) rfl ?_
          refine UPB.ifc rfl ?_ ?_
          · skip
            refine UPB.stp 1 (i1 := 83) (L1 := [some (.ref 0), some (.int v1), some (.int v2), some (.int v3), some (.long v4), u5, some (.long v6), u7, some (.int v8)]) (st1 := [.long v6]) (s1 := s) rfl ?_
            exact UPB.ret (r := some (.long v6)) rfl ⟨⟨_, rfl⟩, h⟩
          · skip
            refine UPB.stp 2 (i1 := 83) (L1 := [some (.ref 0), some (.int v1), some (.int v2), some (.int v3), some (.long v4), u5, some (.long v6), u7, some (.int v8)]) (st1 := [.long v4]) (s1 := s) rfl ?_
            exact UPB.ret (r := some (.long v4)) rfl ⟨⟨_, rfl⟩, h⟩
        · skip
          refine UPB.stp 5 (i1 := 67) (L1 := [some (.ref 0), some (.int v1), some (.int v2), some (.int v3), some (.long v4), u5, some (.long v6), u7, some (.int v8)]) (st1 := [.int (lg_cmp (v4 - v4 / 2 * 2) 0)]) (s1 := s) rfl ?_
          refine UPB.ifc rfl ?_ ?_
          · skip
            refine UPB.stp 1 (i1 := 79) (L1 := [some (.ref 0), some (.int v1), some (.int v2), some (.int v3), some (.long v4), u5, some (.long v6), u7, some (.int v8)]) (st1 := [.int v3]) (s1 := s) rfl ?_
            refine UPB.ifc rfl ?_ ?_
            · skip
              refine UPB.stp 1 (i1 := 83) (L1 := [some (.ref 0), some (.int v1), some (.int v2), some (.int v3), some (.long v4), u5, some (.long v6), u7, some (.int v8)]) (st1 := [.long v6]) (s1 := s) rfl ?_
              exact UPB.ret (r := some (.long v6)) rfl ⟨⟨_, rfl⟩, h⟩
            · skip
              refine UPB.stp 2 (i1 := 83) (L1 := [some (.ref 0), some (.int v1), some (.int v2), some (.int v3), some (.long v4), u5, some (.long v6), u7, some (.int v8)]) (st1 := [.long v4]) (s1 := s) rfl ?_
              exact UPB.ret (r := some (.long v4)) rfl ⟨⟨_, rfl⟩, h⟩
          · skip
            refine UPB.stp 10 (i1 := 55) (L1 := [some (.ref 0), some (.int v1), some (.int v2), some (.int v3), some (.long (v4 / 2)), u5, some (.long (v6 / 2)), u7, some (.int (v8 + 1))]) (st1 := []) (s1 := s) rfl ?_
            exact IH55 v1 v2 v3 (v4 / 2) u5 (v6 / 2) u7 (v8 + 1) s h
theorem KL_chance {s : SG} (h : KF s) (a : Int32) (b : Int32) (c : Int32) : UP m_X6_chance 0 (m_ent 9 [.ref 0, .int a, .int b, .int c]) [] s KL := by
  refine UP.of_b (fun n => ?_)
  obtain ⟨IH18, IH55⟩ := KL_chance_hd n
  refine UPB.stp 2 (i1 := 2) (L1 := [some (.ref 0), some (.int a), some (.int b), some (.int c), none, none, none, none, none]) (st1 := [.int 17, .int a]) (s1 := s) rfl ?_
  refine UPB.cI (M1 := m_X6_isBelow) (as := [.int a, .int 17]) (rest := []) rfl rfl (KI_isBelow h a 17) (fun x1 s2 h3 => ?_)
  refine UPB.ifc rfl ?_ ?_
  · skip
    refine UPB.stp 1 (i1 := 13) (L1 := [some (.ref 0), some (.int a), some (.int b), some (.int c), none, none, none, none, none]) (st1 := [.long (-9223372036854775806)]) (s1 := s2) rfl ?_
    exact UPB.ret (r := some (.long (-9223372036854775806))) rfl ⟨⟨_, rfl⟩, h3⟩
  · skip
    refine UPB.stp 2 (i1 := 6) (L1 := [some (.ref 0), some (.int a), some (.int b), some (.int c), none, none, none, none, none]) (st1 := [.int 24, .int b]) (s1 := s2) rfl ?_
    refine UPB.cI (M1 := m_X6_isBelow) (as := [.int b, .int 24]) (rest := []) rfl rfl (KI_isBelow h3 b 24) (fun x4 s5 h6 => ?_)
    refine UPB.ifc rfl ?_ ?_
    · skip
      refine UPB.stp 1 (i1 := 13) (L1 := [some (.ref 0), some (.int a), some (.int b), some (.int c), none, none, none, none, none]) (st1 := [.long (-9223372036854775806)]) (s1 := s5) rfl ?_
      exact UPB.ret (r := some (.long (-9223372036854775806))) rfl ⟨⟨_, rfl⟩, h6⟩
    · skip
      refine UPB.stp 2 (i1 := 10) (L1 := [some (.ref 0), some (.int a), some (.int b), some (.int c), none, none, none, none, none]) (st1 := [.int 2, .int c]) (s1 := s5) rfl ?_
      refine UPB.cI (M1 := m_X6_isBelow) (as := [.int c, .int 2]) (rest := []) rfl rfl (KI_isBelow h6 c 2) (fun x7 s8 h9 => ?_)
      refine UPB.ifc rfl ?_ ?_
      · skip
        refine UPB.stp 4 (i1 := 18) (L1 := [some (.ref 0), some (.int a), some (.int b), some (.int c), some (.long 0), none, some (.int 0), none, none]) (st1 := []) (s1 := s8) rfl ?_
        exact IH18 a b c 0 none 0 none none s8 h9
      · skip
        refine UPB.stp 1 (i1 := 13) (L1 := [some (.ref 0), some (.int a), some (.int b), some (.int c), none, none, none, none, none]) (st1 := [.long (-9223372036854775806)]) (s1 := s8) rfl ?_
        exact UPB.ret (r := some (.long (-9223372036854775806))) rfl ⟨⟨_, rfl⟩, h9⟩
