def W_agreeWith : List (Nat × Nat × Option Nat) := []
def B_agreeWith_2 (s : SG) (i1 : Nat) (a1 : Unit) : (Unit) ⊕ (Int32) := bif m_cmp .eq (s 60 ((s 7 i1).toNatClampNeg)) (s 8 i1) then (.inl ()) else (.inr 0)
def F_agreeWith (s : SG)  : Int32 := Sum.elim (fun z1 : Unit => 1) (fun x : Nat × (Int32) => x.2) (itx (B_agreeWith_2 s) 0 ((s 6 2).toNatClampNeg) ())
set_option maxRecDepth 20000 in
set_option maxHeartbeats 200000 in
theorem ux_agreeWith (s : SG)   : UP m_X2_agreeWith 0 (m_ent 3 [.ref 6, .ref 58]) [] s (Qi s (F_agreeWith s)) := by
  refine UP.stp 2 (i1 := 2) (L1 := [some (.ref 6), some (.ref 58), some (.int 0)]) (st1 := []) (s1 := s) rfl ?_
  refine lpx (fun (i1 : Nat) (a1 : Unit) => UP m_X2_agreeWith 2 [some (.ref 6), some (.ref 58), some (.int (Int32.ofNat i1))] [] s (Qi s (F_agreeWith s))) (fun (_ : Nat) (b1 : Int32) => (F_agreeWith s) = b1) (fun (_ : Nat) (a1 : Unit) => Fr W_agreeWith s s) (B_agreeWith_2 s) ((s 6 2).toNatClampNeg) (fun i1 a1 x1 hi1 g1 e => g1) (fun i1 a1 hi1 g1 kk => ?_) ((s 6 2).toNatClampNeg) (0) () (by omega) (Fr.rf _ _) (fun z1 e1 g1 => ?_) (fun i1 a1 b1 e1 hi1 g1 f1 => by have q : (F_agreeWith s) = Sum.elim (fun z1 : Unit => 1) (fun x : Nat × (Int32) => x.2) (itx (B_agreeWith_2 s) 0 ((s 6 2).toNatClampNeg) ()) := (by first | (dsimp only [F_agreeWith]; done) | (dsimp only; done) | rfl); rw [q, e1]; first | (dsimp only [Sum.elim_inr]; done) | rfl)
  · skip
    have hbi1 := cl_lt (s 6 2)
    refine UP.stp 3 (i1 := 5) (L1 := [some (.ref 6), some (.ref 58), some (.int (Int32.ofNat i1))]) (st1 := [.int (s 6 2), .int (Int32.ofNat i1)]) (s1 := s) rfl ?_
    refine UP.icF rfl (ge_F hi1) ?_
    refine UP.stp 5 (i1 := 11) (L1 := [some (.ref 6), some (.ref 58), some (.int (Int32.ofNat i1))]) (st1 := [.int (Int32.ofNat i1), .ref 7, .ref 60]) (s1 := s) rfl ?_
    refine UP.ald (e := i1) rfl rfl (by omega) ?_
    show UP m_X2_agreeWith 12 [some (.ref 6), some (.ref 58), some (.int (Int32.ofNat i1))] [.int (s 7 i1), .ref 60] s (Qi s (F_agreeWith s))
    refine UP.stp 4 (i1 := 16) (L1 := [some (.ref 6), some (.ref 58), some (.int (Int32.ofNat i1))]) (st1 := [.int (Int32.ofNat i1), .ref 8, .int (s 60 ((s 7 i1).toNatClampNeg))]) (s1 := s) rfl ?_
    refine UP.ald (e := i1) rfl rfl (by omega) ?_
    show UP m_X2_agreeWith 17 [some (.ref 6), some (.ref 58), some (.int (Int32.ofNat i1))] [.int (s 8 i1), .int (s 60 ((s 7 i1).toNatClampNeg))] s (Qi s (F_agreeWith s))
    refine brk (K := (Kx (fun (i1 : Nat) (a1 : Unit) => UP m_X2_agreeWith 2 [some (.ref 6), some (.ref 58), some (.int (Int32.ofNat i1))] [] s (Qi s (F_agreeWith s))) (fun (_ : Nat) (b1 : Int32) => (F_agreeWith s) = b1) i1)) (m_cmp .eq (s 60 ((s 7 i1).toNatClampNeg)) (s 8 i1)) (.inl ()) (.inr 0) (by (try dsimp only [B_agreeWith_2] at kk ⊢); exact kk) (fun cc kk => ?_) (fun cc kk => ?_)
    · skip
      refine UP.icT rfl cc ?_
      refine UP.stp 2 (i1 := 2) (L1 := [some (.ref 6), some (.ref 58), some (.int ((Int32.ofNat i1) + 1))]) (st1 := []) (s1 := s) rfl ?_
      rw [ofn_s]
      exact kk
    · skip
      refine UP.icF rfl cc ?_
      refine UP.stp 1 (i1 := 19) (L1 := [some (.ref 6), some (.ref 58), some (.int (Int32.ofNat i1))]) (st1 := [.int 0]) (s1 := s) rfl ?_
      have kk : (F_agreeWith s) = 0 := by exact kk
      exact UP.ret (r := some (.int 0)) rfl ⟨by rw [kk], rfl⟩
  · skip
    refine UP.eqT (1) (by have q : (F_agreeWith s) = Sum.elim (fun z1 : Unit => 1) (fun x : Nat × (Int32) => x.2) (itx (B_agreeWith_2 s) 0 ((s 6 2).toNatClampNeg) ()) := (by first | (dsimp only [F_agreeWith]; done) | (dsimp only; done) | rfl); rw [q, e1]; first | (dsimp only [Sum.elim_inl]; done) | rfl) ?_
    refine UP.stp 3 (i1 := 5) (L1 := [some (.ref 6), some (.ref 58), some (.int (Int32.ofNat ((s 6 2).toNatClampNeg)))]) (st1 := [.int (s 6 2), .int (Int32.ofNat ((s 6 2).toNatClampNeg))]) (s1 := s) rfl ?_
    refine UP.icT rfl (ge_T _) ?_
    refine UP.stp 1 (i1 := 23) (L1 := [some (.ref 6), some (.ref 58), some (.int (Int32.ofNat ((s 6 2).toNatClampNeg)))]) (st1 := [.int 1]) (s1 := s) rfl ?_
    exact UP.ret (r := some (.int 1)) rfl ⟨by first | (dsimp only [F_agreeWith]; done) | (dsimp only; done) | rfl, by first | (dsimp only [F_agreeWith]; done) | (dsimp only; done) | rfl⟩
def W_cnever : List (Nat × Nat × Option Nat) := [(16, 20, none), (22, 45, none), (46, 52, none), (15, 15, some 8), (59, 63, none), (65, 88, none), (89, 95, none), (58, 58, some 8), (53, 57, none), (96, 108, none), (0, 0, some 12), (0, 0, some 13)]
def B_cnever_4  (i1 : Nat) (a1 : SG × Int32) : SG × Int32 := let z2 := F_row_c a1.1 ((255 : Int32) &&& ((1 <<< ((Int32.ofNat i1) &&& 31)) ^^^ (-1 : Int32))); let v5 := bif m_cmp .eq (F_agreeWith z2) 0 then a1.2 else (a1.2 ||| (1 <<< ((Int32.ofNat i1) &&& 31))); (z2, v5)
set_option maxRecDepth 20000 in
set_option maxHeartbeats 200000 in
theorem fr_B_cnever_4  (i1 : Nat) (a1 : SG × Int32)   : Fr W_cnever a1.1 ((B_cnever_4) i1 a1).1 := by dsimp only [B_cnever_4]; exact (Fr.tr (s1 := a1.1) (Fr.rf _ _) (Fr.wk (W2 := W_cnever) (fr_row_c a1.1 ((255 : Int32) &&& ((1 <<< ((Int32.ofNat i1) &&& 31)) ^^^ (-1 : Int32)))) (by rfl)))
def F_cnever (s : SG)  : Int32 × SG := let z1 := itr (B_cnever_4) 0 ((s 2 3).toNatClampNeg) (s, 0); (z1.2, z1.1)
set_option maxRecDepth 20000 in
set_option maxHeartbeats 200000 in
theorem fr_cnever (s : SG)   : Fr W_cnever s (F_cnever s).2 := by dsimp only [F_cnever]; exact (Fr.itr (W := W_cnever) (m := (fun x : SG × Int32 => x.1)) (f := (B_cnever_4)) (fun ii aa => Fr.wk (W2 := W_cnever) (fr_B_cnever_4  ii aa ) (by rfl)) ((s 2 3).toNatClampNeg) 0 (s, 0) (Fr.rf _ _))
set_option maxRecDepth 20000 in
set_option maxHeartbeats 200000 in
theorem ux_cnever (s : SG)   : UP m_X6_never 0 (m_ent 3 [.ref 0]) [] s (Qb (F_cnever s)) := by
  refine UP.stp 4 (i1 := 4) (L1 := [some (.ref 0), some (.int 0), some (.int 0)]) (st1 := []) (s1 := s) rfl ?_
  refine lp (fun (i1 : Nat) (a1 : SG × Int32) => UP m_X6_never 4 [some (.ref 0), some (.int a1.2), some (.int (Int32.ofNat i1))] [] a1.1 (Qb (F_cnever s))) (fun (_ : Nat) (a1 : SG × Int32) => Fr W_cnever s a1.1) (B_cnever_4) ((s 2 3).toNatClampNeg) (fun i1 a1 hi1 g1 => g1.tr (fr_B_cnever_4  i1 a1 )) (fun i1 a1 hi1 g1 kk => ?_) ((s 2 3).toNatClampNeg) (0) (s, 0) (by  omega) (Fr.rf _ _) (fun z1 e1 g1 => ?_)
  · skip
    have hbi1 := cl_lt (s 2 3)
    refine UP.stp 4 (i1 := 8) (L1 := [some (.ref 0), some (.int a1.2), some (.int (Int32.ofNat i1))]) (st1 := [.int (a1.1 2 3), .int (Int32.ofNat i1)]) (s1 := a1.1) rfl ?_
    refine UP.icF rfl (by rw [(g1 2 3 rfl)]; exact ge_F hi1) ?_
    refine UP.stp 13 (i1 := 22) (L1 := [some (.ref 0), some (.int a1.2), some (.int (Int32.ofNat i1))]) (st1 := [.int ((255 : Int32) &&& ((1 <<< ((Int32.ofNat i1) &&& 31)) ^^^ (-1 : Int32))), .ref 2, .ref 10, .ref 58]) (s1 := a1.1) rfl ?_
    refine UP.cV (M1 := m_X5_row) (as := [.ref 58, .ref 10, .ref 2, .int ((255 : Int32) &&& ((1 <<< ((Int32.ofNat i1) &&& 31)) ^^^ (-1 : Int32)))]) (rest := []) (T := F_row_c a1.1 ((255 : Int32) &&& ((1 <<< ((Int32.ofNat i1) &&& 31)) ^^^ (-1 : Int32)))) rfl rfl (ux_row_c a1.1 ((255 : Int32) &&& ((1 <<< ((Int32.ofNat i1) &&& 31)) ^^^ (-1 : Int32)))) (fun z2 e2 => ?_)
    refine UP.stp 4 (i1 := 27) (L1 := [some (.ref 0), some (.int a1.2), some (.int (Int32.ofNat i1))]) (st1 := [.ref 58, .ref 6]) (s1 := z2) rfl ?_
    refine UP.cI (M1 := m_X2_agreeWith) (as := [.ref 6, .ref 58]) (rest := []) (T := F_agreeWith z2 ) rfl rfl (ux_agreeWith z2 ) ?_
    refine mrg (m_cmp .eq (F_agreeWith z2) 0) a1.2 (a1.2 ||| (1 <<< ((Int32.ofNat i1) &&& 31))) (fun v5 : Int32 => UP m_X6_never 35 [some (.ref 0), some (.int v5), some (.int (Int32.ofNat i1))] [] z2 (Qb (F_cnever s))) (fun cc kk => ?_) (fun cc kk => ?_) (fun v5 e5 => ?_)
    · skip
      refine UP.ifT rfl cc ?_
      exact kk
    · skip
      refine UP.ifF rfl cc ?_
      refine UP.stp 5 (i1 := 34) (L1 := [some (.ref 0), some (.int a1.2), some (.int (Int32.ofNat i1))]) (st1 := [.int (a1.2 ||| (1 <<< ((Int32.ofNat i1) &&& 31)))]) (s1 := z2) rfl ?_
      refine nm (G := fun v4 => UP m_X6_never 34 [some (.ref 0), some (.int a1.2), some (.int (Int32.ofNat i1))] [.int v4] z2 (Qb (F_cnever s))) (a1.2 ||| (1 <<< ((Int32.ofNat i1) &&& 31))) (fun v4 e4 => ?_)
      refine UP.stp 1 (i1 := 35) (L1 := [some (.ref 0), some (.int v4), some (.int (Int32.ofNat i1))]) (st1 := []) (s1 := z2) rfl ?_
      subst e4
      exact kk
    refine UP.stp 2 (i1 := 4) (L1 := [some (.ref 0), some (.int v5), some (.int ((Int32.ofNat i1) + 1))]) (st1 := []) (s1 := z2) rfl ?_
    subst e5 e2
    rw [ofn_s]
    try dsimp only [B_cnever_4] at kk
    exact kk
  refine UP.stp 4 (i1 := 8) (L1 := [some (.ref 0), some (.int z1.2), some (.int (Int32.ofNat ((s 2 3).toNatClampNeg)))]) (st1 := [.int (z1.1 2 3), .int (Int32.ofNat ((s 2 3).toNatClampNeg))]) (s1 := z1.1) rfl ?_
  refine UP.icT rfl (by rw [(g1 2 3 rfl)]; exact ge_T _) ?_
  refine UP.stp 1 (i1 := 38) (L1 := [some (.ref 0), some (.int z1.2), some (.int (Int32.ofNat ((s 2 3).toNatClampNeg)))]) (st1 := [.int z1.2]) (s1 := z1.1) rfl ?_
  exact UP.ret (r := some (.int z1.2)) rfl ⟨by subst e1; first | (dsimp only [F_cnever]; done) | (dsimp only; done) | rfl, by subst e1; first | (dsimp only [F_cnever]; done) | (dsimp only; done) | rfl⟩
def W_mvsR : Nat := 0
set_option maxRecDepth 20000 in
set_option maxHeartbeats 200000 in
theorem frMvsR {W : List (Nat × Nat × Option Nat)} {s s1 : SG} {a0 i a1 j n : Nat} (lo hi : Nat) (h1 : lo ≤ a1) (h2 : a1 ≤ hi) (hm : W.any (fun w => w.1 == lo && (w.2.1 == hi && w.2.2.isNone)) = true) (k : Fr W s s1) : Fr W s (mvs s1 a0 i a1 j n) := fun b q hb => by
  show (if b = a1 ∧ j ≤ q ∧ q < j + n then s1 a0 (i + (q - j)) else s1 b q) = s b q
  by_cases e : b = a1 ∧ j ≤ q ∧ q < j + n
  · have q2 : inW W b q = true := inW_r lo hi (by rw [e.1]; exact h1) (by rw [e.1]; exact h2) hm
    rw [q2] at hb
    cases hb
  · rw [if_neg e]
    exact k b q hb
