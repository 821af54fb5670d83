/-! spare: both answers -/
def z0S : SG := fun _ _ => 0
theorem ithC (s : SG) (b i : Int32) : F_ithBit s b i = F_ithBit z0S b i := by
  have e : B_ithBit_4 b i s = B_ithBit_4 b i z0S := rfl
  unfold F_ithBit
  rw [e]
def svC (r : SPR) (i : Int32) : Int32 := bif m_cmp .ne (enCs r) (-1) then (bif m_cmp .ne i (-1) then F_ithBit z0S (enCs r) i else bcF (enCs r)) else -1
def okI (i : Int32) : Bool := bif m_cmp .lt i (-1) then false else m_cmp .lt i 2
theorem ux_spareC {s : SG} {N : Nat} (h : KF s) (hN : N ≤ 8) (eN : s 2 3 = Int32.ofNat N) (i : Int32) : UP m_X6_spare 0 (m_ent 3 [.ref 0, .int i]) [] s (fun v s1 => v = some (.int (bif okI i then svC (rS s N) i else -2)) ∧ KF s1 ∧ Ag DG s s1) := by
  refine UP.stp 2 (i1 := 2) (L1 := [some (.ref 0), some (.int i), none]) (st1 := [.int (-1), .int i]) (s1 := s) rfl ?_
  unfold okI
  cases c1 : m_cmp .lt i (-1) with
  | true =>
    refine UP.icT rfl c1 ?_
    refine UP.stp 1 (i1 := 7) (L1 := [some (.ref 0), some (.int i), none]) (st1 := [.int (-2)]) (s1 := s) rfl ?_
    exact UP.ret (r := some (.int (-2))) rfl ⟨rfl, h, Ag.rf _ _⟩
  | false =>
    refine UP.icF rfl c1 ?_
    refine UP.stp 2 (i1 := 5) (L1 := [some (.ref 0), some (.int i), none]) (st1 := [.int 2, .int i]) (s1 := s) rfl ?_
    cases c2 : m_cmp .lt i 2 with
    | false =>
      refine UP.icF rfl c2 ?_
      refine UP.stp 1 (i1 := 7) (L1 := [some (.ref 0), some (.int i), none]) (st1 := [.int (-2)]) (s1 := s) rfl ?_
      exact UP.ret (r := some (.int (-2))) rfl ⟨rfl, h, Ag.rf _ _⟩
    | true =>
      refine UP.icT rfl c2 ?_
      refine UP.stp 1 (i1 := 9) (L1 := [some (.ref 0), some (.int i), none]) (st1 := [.ref 0]) (s1 := s) rfl ?_
      refine UP.call (M1 := m_X6_sparedEvents) (as := [.ref 0]) (rest := []) rfl rfl (ux_spared h hN eN) (fun r w q => ?_)
      obtain ⟨rfl, k, a⟩ := q
      rw [kF, kT]
      unfold svC
      generalize enCs (rS s N) = x
      refine UP.stp 3 (i1 := 13) (L1 := [some (.ref 0), some (.int i), some (.int x)]) (st1 := [.int (-1), .int x]) (s1 := w) rfl ?_
      cases c3 : m_cmp .ne x (-1) with
      | false =>
        refine UP.icF rfl c3 ?_
        refine UP.stp 1 (i1 := 15) (L1 := [some (.ref 0), some (.int i), some (.int x)]) (st1 := [.int (-1)]) (s1 := w) rfl ?_
        exact UP.ret (r := some (.int (-1))) rfl ⟨rfl, k, a⟩
      | true =>
        refine UP.icT rfl c3 ?_
        refine UP.stp 2 (i1 := 18) (L1 := [some (.ref 0), some (.int i), some (.int x)]) (st1 := [.int (-1), .int i]) (s1 := w) rfl ?_
        rw [kT]
        cases c4 : m_cmp .ne i (-1) with
        | true =>
          refine UP.icT rfl c4 ?_
          refine UP.stp 2 (i1 := 24) (L1 := [some (.ref 0), some (.int i), some (.int x)]) (st1 := [.int i, .int x]) (s1 := w) rfl ?_
          refine UP.cI (M1 := m_X6_ithBit) (as := [.int x, .int i]) (rest := []) (T := F_ithBit w x i) rfl rfl (ux_ithBit w x i) ?_
          rw [ithC w x i, kT]
          exact UP.ret (r := some (.int (F_ithBit z0S x i))) rfl ⟨rfl, k, a⟩
        | false =>
          refine UP.icF rfl c4 ?_
          refine UP.stp 1 (i1 := 20) (L1 := [some (.ref 0), some (.int i), some (.int x)]) (st1 := [.int x]) (s1 := w) rfl ?_
          refine UP.cI (M1 := m_J6_bitCount_0f7a4) (as := [.int x]) (rest := []) (T := bcF x) rfl rfl (ux_bitCount w x) ?_
          rw [kF]
          refine UP.stp 1 (i1 := 25) (L1 := [some (.ref 0), some (.int i), some (.int x)]) (st1 := [.int (bcF x)]) (s1 := w) rfl ?_
          exact UP.ret (r := some (.int (bcF x))) rfl ⟨rfl, k, a⟩
theorem in11 (s : SG) (i : Int32) : m_cmp .eq (F_in s i (-1) 1) 0 = !(okI i) := by
  have e : m_cmp .gt i 1 = !(m_cmp .lt i 2) := by
    have e1 : (1 : Int32).toInt = 1 := by decide
    have e2 : (2 : Int32).toInt = 2 := by decide
    cases q : m_cmp .lt i 2 with
    | true =>
      have := m_lt_iff.mp q
      cases w : m_cmp .gt i 1 with
      | false => rfl
      | true =>
        have := m_gt_iff.mp w
        omega
    | false =>
      have := m_ff m_lt_iff q
      exact m_gt_iff.mpr (by omega)
  have eF : F_in s i (-1) 1 = bif m_cmp .lt i (-1) then (0 : Int32) else (bif m_cmp .gt i 1 then (0 : Int32) else (1 : Int32)) := rfl
  rw [eF, e]
  unfold okI
  cases m_cmp .lt i (-1) with
  | true => rfl
  | false =>
    cases m_cmp .lt i 2 <;> rfl
theorem ux_spareM {c : SG} {N : Nat} (k : KF c) (hN : N ≤ 8) (eN : c 2 3 = Int32.ofNat N) (i : Int32) : UP m_X7_spare 0 (m_ent 2 [.ref 123, .int i]) [] c (fun v s2 => v = some (.int (bif okI i then F_ofRow s2 (enMs (rS c N)) i else -2)) ∧ (okI i = true → plnR (rS c N) s2) ∧ KF s2) := by
  refine UP.stp 3 (i1 := 3) (L1 := [some (.ref 123), some (.int i)]) (st1 := [.int 1, .int (-1), .int i]) (s1 := c) rfl ?_
  refine UP.cI (M1 := m_X7_in) (as := [.int i, .int (-1), .int 1]) (rest := []) (T := F_in c i (-1) 1) rfl rfl (ux_in c i (-1) 1) ?_
  cases q : okI i with
  | false =>
    refine UP.ifT rfl (by rw [in11, q]; rfl) ?_
    refine UP.stp 1 (i1 := 12) (L1 := [some (.ref 123), some (.int i)]) (st1 := [.int (-2)]) (s1 := c) rfl ?_
    exact UP.ret (r := some (.int (-2))) rfl ⟨rfl, fun w => (by cases w), k⟩
  | true =>
    refine UP.ifF rfl (by rw [in11, q]; rfl) ?_
    refine UP.stp 2 (i1 := 7) (L1 := [some (.ref 123), some (.int i)]) (st1 := [.ref 123, .ref 123]) (s1 := c) rfl ?_
    refine UP.call (M1 := m_X7_spareBy) (as := [.ref 123]) (rest := [.ref 123]) rfl rfl (ux_spareBy k.1 hN eN) (fun r w p => ?_)
    obtain ⟨rfl, pl, x, m⟩ := p
    generalize rS c N = r0 at *
    refine UP.stp 1 (i1 := 9) (L1 := [some (.ref 123), some (.int i)]) (st1 := [.int i, .int (enMs r0), .ref 123]) (s1 := w) rfl ?_
    refine UP.cI (M1 := m_X7_ofRow) (as := [.ref 123, .int (enMs r0), .int i]) (rest := []) (T := F_ofRow w (enMs r0) i) rfl rfl (ux_ofRow w (enMs r0) i) ?_
    refine UP.stp 1 (i1 := 12) (L1 := [some (.ref 123), some (.int i)]) (st1 := [.int (F_ofRow w (enMs r0) i)]) (s1 := w) rfl ?_
    exact UP.ret (r := some (.int (F_ofRow w (enMs r0) i))) rfl ⟨by rw [kT], fun _ => pl, k.ag (m.2.2.2.2.2.ag DF rfl)⟩
theorem rS_ok (s : SG) (N : Nat) : okR N (rS s N) := spR_ok (agN s (allM N)) (fun a => agN s (mk1 N a)) (fun a b => agN s (mk2 N a b)) N
theorem bc0 : bcF 0 = 0 ∧ F_ithBit z0S 0 0 = -1 ∧ F_ithBit z0S 0 1 = -1 := by decide +kernel
theorem bc1 : ∀ a, a < 8 → m_cmp .ne (enB a) (-1) = true ∧ bcF (enB a) = 1 ∧ F_ithBit z0S (enB a) 0 = Int32.ofNat a ∧ F_ithBit z0S (enB a) 1 = -1 := by decide +kernel
theorem bc2 : ∀ a, a < 8 → ∀ b, b < 8 → a < b → m_cmp .ne (enB a ||| enB b) (-1) = true ∧ bcF (enB a ||| enB b) = 2 ∧ F_ithBit z0S (enB a ||| enB b) 0 = Int32.ofNat a ∧ F_ithBit z0S (enB a ||| enB b) 1 = Int32.ofNat b := by decide +kernel
theorem okI3 {i : Int32} (h : okI i = true) : i = -1 ∨ i = 0 ∨ i = 1 := by
  unfold okI at h
  have e1 : (-1 : Int32).toInt = -1 := by decide
  have e2 : (2 : Int32).toInt = 2 := by decide
  have e3 : (0 : Int32).toInt = 0 := by decide
  have e4 : (1 : Int32).toInt = 1 := by decide
  cases q : m_cmp .lt i (-1) with
  | true => rw [q] at h; cases h
  | false =>
    rw [q] at h
    have h : m_cmp .lt i 2 = true := h
    have q := m_ff m_lt_iff q
    have h := m_lt_iff.mp h
    have w : i.toInt = (-1 : Int32).toInt ∨ i.toInt = (0 : Int32).toInt ∨ i.toInt = (1 : Int32).toInt := by omega
    rcases w with w | w | w
    · exact Or.inl (Int32.toInt_inj.mp w)
    · exact Or.inr (Or.inl (Int32.toInt_inj.mp w))
    · exact Or.inr (Or.inr (Int32.toInt_inj.mp w))
theorem svE {N : Nat} (hN : N ≤ 8) {r : SPR} (o : okR N r) {s : SG} (p : plnR r s) {i : Int32} (h : okI i = true) : svC r i = F_ofRow s (enMs r) i := by
  have eO : ∀ n j : Int32, F_ofRow s n j = bif m_cmp .ne j (-1) then (bif m_cmp .ge j n then (-1 : Int32) else s 144 j.toNatClampNeg) else n := fun _ _ => rfl
  have n1 : m_cmp .ne (-1 : Int32) (-1) = false := rfl
  have n2 : m_cmp .ne (0 : Int32) (-1) = true := rfl
  have n3 : m_cmp .ne (1 : Int32) (-1) = true := rfl
  have c0 : (0 : Int32).toNatClampNeg = 0 := rfl
  have c1 : (1 : Int32).toNatClampNeg = 1 := rfl
  unfold svC
  rw [eO]
  match r, o, p with
  | none, _, _ =>
    show (bif m_cmp .ne (-1) (-1) then _ else (-1 : Int32)) = bif m_cmp .ne i (-1) then (bif m_cmp .ge i (-1) then (-1 : Int32) else _) else (-1)
    rw [n1, kF]
    rcases okI3 h with rfl | rfl | rfl
    · rw [n1, kF]
    · rw [n2, kT, show m_cmp .ge (0 : Int32) (-1) = true from rfl, kT]
    · rw [n3, kT, show m_cmp .ge (1 : Int32) (-1) = true from rfl, kT]
  | some none, _, _ =>
    show (bif m_cmp .ne 0 (-1) then (bif m_cmp .ne i (-1) then F_ithBit z0S 0 i else bcF 0) else (-1 : Int32)) = bif m_cmp .ne i (-1) then (bif m_cmp .ge i 0 then (-1 : Int32) else _) else 0
    rw [n2, kT]
    rcases okI3 h with rfl | rfl | rfl
    · rw [n1, kF, kF]; exact bc0.1
    · rw [n2, kT, kT, show m_cmp .ge (0 : Int32) 0 = true from rfl, kT]; exact bc0.2.1
    · rw [n3, kT, kT, show m_cmp .ge (1 : Int32) 0 = true from rfl, kT]; exact bc0.2.2
  | some (some (a, none)), o, p =>
    have o : a < N := o.1 a rfl
    have p : s 144 0 = Int32.ofNat a := p.1 a rfl
    obtain ⟨d1, d2, d3, d4⟩ := bc1 a (by omega)
    show (bif m_cmp .ne (enB a) (-1) then (bif m_cmp .ne i (-1) then F_ithBit z0S (enB a) i else bcF (enB a)) else (-1 : Int32)) = bif m_cmp .ne i (-1) then (bif m_cmp .ge i 1 then (-1 : Int32) else _) else 1
    rw [d1, kT]
    rcases okI3 h with rfl | rfl | rfl
    · rw [n1, kF, kF]; exact d2
    · rw [n2, kT, kT, show m_cmp .ge (0 : Int32) 1 = false from rfl, kF, c0, p]; exact d3
    · rw [n3, kT, kT, show m_cmp .ge (1 : Int32) 1 = true from rfl, kT]; exact d4
  | some (some (a, some b)), o, p =>
    have o : a < b ∧ b < N := o.2 a b rfl
    have p : s 144 0 = Int32.ofNat a ∧ s 144 1 = Int32.ofNat b := p.2 a b rfl
    obtain ⟨d1, d2, d3, d4⟩ := bc2 a (by omega) b (by omega) o.1
    show (bif m_cmp .ne (enB a ||| enB b) (-1) then (bif m_cmp .ne i (-1) then F_ithBit z0S (enB a ||| enB b) i else bcF (enB a ||| enB b)) else (-1 : Int32)) = bif m_cmp .ne i (-1) then (bif m_cmp .ge i 2 then (-1 : Int32) else _) else 2
    rw [d1, kT]
    rcases okI3 h with rfl | rfl | rfl
    · rw [n1, kF, kF]; exact d2
    · rw [n2, kT, kT, show m_cmp .ge (0 : Int32) 2 = false from rfl, kF, c0, p.1]; exact d3
    · rw [n3, kT, kT, show m_cmp .ge (1 : Int32) 2 = false from rfl, kF, c1, p.2]; exact d4
theorem pe_spare {h : MH} (hJ : JK h) (a : Int32) (p : PairOK J1 TA 55 155 [.int a] h) : PairOK JK TE 55 155 [.int a] h := by
  have E := hJ.2.1.2.2.1
  obtain ⟨N, hN, eN⟩ := lenO E.2.1 E.2.2.1
  refine PairOK.up (K := KF) (T' := TE) (M1 := m_X6_spare) (M2 := m_X7_spare) (QX := fun v s1 => v = some (.int (bif okI a then svC (rS (cI h) N) a else -2)) ∧ KF s1 ∧ Ag DG (cI h) s1) (QY := fun _ s1 v s2 => v = some (.int (bif okI a then F_ofRow s2 (enMs (rS s1 N)) a else -2)) ∧ (okI a = true → plnR (rS s1 N) s2) ∧ KF s2) p hJ.1 rfl rfl (by decide) (by decide) (ux_spareC hJ.2 hN eN a) (fun r s1 q => ux_spareM q.2.1 hN (n23 eN q.2.2) a) (fun r s1 r2 h2 q w _ _ => ?_)
  obtain ⟨q1, q2, q3⟩ := q
  obtain ⟨w1, w2, w3⟩ := w
  have eR : rS s1 N = rS (cI h) N := by
    have e : agN s1 = agN (cI h) := by
      funext m
      unfold agN
      rw [inC_ag (q3.sub rfl)]
    unfold rS
    rw [e]
  have k2 := rS_ok (cI h) N
  rw [eR] at w1 w2
  generalize rS (cI h) N = r0 at *
  refine ⟨⟨_, q1, ?_⟩, w3⟩
  rw [w1]
  cases o : okI a with
  | false => rw [kF, kF]
  | true => rw [kT, kT, svE hN k2 (w2 o) o]
