/-! THE TRIP, told purely -/
abbrev NI : Type := Nat → Int32
theorem itr_succ {α : Type} (f : Nat → α → α) : ∀ (n lo : Nat) (a : α), itr f lo (n + 1) a = f (lo + n) (itr f lo n a)
  | 0, _, _ => rfl
  | n + 1, lo, a => by
    show itr f (lo + 1) (n + 1) (f lo a) = f (lo + (n + 1)) (itr f (lo + 1) n (f lo a))
    rw [itr_succ f n (lo + 1) (f lo a), show lo + 1 + n = lo + (n + 1) by omega]
theorem itr_0 {α : Type} (f : Nat → α → α) (n : Nat) (a : α) : itr f 0 (n + 1) a = f n (itr f 0 n a) := by
  rw [itr_succ, Nat.zero_add]
theorem itr_ind {α : Type} {f : Nat → α → α} {a : α} (I : Nat → α → Prop) (hi : Nat) (h0 : I 0 a) (hs : ∀ i x, i < hi → I i x → I (i + 1) (f i x)) : ∀ n, n ≤ hi → I n (itr f 0 n a)
  | 0, _ => h0
  | n + 1, hn => by
    rw [itr_0]
    exact hs n _ (by omega) (itr_ind I hi h0 hs n (by omega))
/-- what befalls in a minute: crabs, aside, flood -/
def bstep (K Mi Nu : NI) (off : Nat → Bool) (t e : Nat) (x : Int32 × Int32 × Int32) : Int32 × Int32 × Int32 :=
  bif m_cmp .ne (Mi e) (Int32.ofNat t) then x else (bif off e then x else
    (x.1 ||| (bif m_cmp .ne (K e) 0 then (0 : Int32) else 1 <<< (Nu e &&& 31)), x.2.1 + (bif m_cmp .ne (K e) 1 then (0 : Int32) else (bif m_cmp .ne (Nu e - Nu e / 2 * 2) 1 then (-2 : Int32) else (2 : Int32))), x.2.2 + (bif m_cmp .ne (K e) 2 then (0 : Int32) else (3 : Int32))))
def bef (n : Nat) (K Mi Nu : NI) (off : Nat → Bool) (t : Nat) : Int32 × Int32 × Int32 := itr (bstep K Mi Nu off t) 0 n (0, 0, 0)
def offM (s : SG) (e : Nat) : Bool := m_cmp .ne (F_isIn s (s 123 17) (Int32.ofNat e)) 0
def befM (s : SG) (t : Nat) : Int32 × Int32 × Int32 := bef (s 123 11).toNatClampNeg (s 130) (s 131) (s 132) (offM s) t
theorem m_bef (s : SG) (t : Nat) : (F_befalls s t 123 25, F_befalls s t 123 26, F_befalls s t 123 27) = befM s t := by
  have key : ∀ i, Fr W_befalls s (itr (B_befalls_11 t) 0 i (uset (uset (uset s 123 25 0) 123 26 0) 123 27 0)) ∧ (itr (B_befalls_11 t) 0 i (uset (uset (uset s 123 25 0) 123 26 0) 123 27 0) 123 25, itr (B_befalls_11 t) 0 i (uset (uset (uset s 123 25 0) 123 26 0) 123 27 0) 123 26, itr (B_befalls_11 t) 0 i (uset (uset (uset s 123 25 0) 123 26 0) 123 27 0) 123 27) = itr (bstep (s 130) (s 131) (s 132) (offM s) t) 0 i (0, 0, 0) := by
    intro i
    induction i with
    | zero => exact ⟨Fr.uset rfl (Fr.uset rfl (Fr.uset rfl (Fr.rf _ _))), rfl⟩
    | succ i ih =>
      obtain ⟨f, e⟩ := ih
      rw [itr_0, itr_0, ← e]
      generalize itr (B_befalls_11 t) 0 i (uset (uset (uset s 123 25 0) 123 26 0) 123 27 0) = a at f
      refine ⟨f.tr (fr_B_befalls_11 t i a), ?_⟩
      unfold B_befalls_11 bstep offM
      rw [f 131 i rfl, f 130 i rfl, f 132 i rfl, f 123 17 rfl]
      show _ = (bif m_cmp .ne (s 131 i) (Int32.ofNat t) then _ else (bif m_cmp .ne (F_isIn a (s 123 17) (Int32.ofNat i)) 0 then _ else _))
      cases m_cmp .ne (s 131 i) (Int32.ofNat t)
      · cases m_cmp .ne (F_isIn a (s 123 17) (Int32.ofNat i)) 0
        · rfl
        · rfl
      · rfl
  exact (key _).2
theorem and_one (x : Int32) : x &&& 1 = 0 ∨ x &&& 1 = 1 := by
  have h : (x &&& 1).toBitVec = x.toBitVec &&& 1#32 := rfl
  have h2 : (x.toBitVec &&& 1#32).toNat = x.toBitVec.toNat % 2 := by
    rw [BitVec.toNat_and]
    exact Nat.and_one_is_mod _
  rcases Nat.mod_two_eq_zero_or_one x.toBitVec.toNat with e | e
  · left
    apply Int32.toBitVec_inj.mp
    apply BitVec.eq_of_toNat_eq
    rw [h, h2, e]
    rfl
  · right
    apply Int32.toBitVec_inj.mp
    apply BitVec.eq_of_toNat_eq
    rw [h, h2, e]
    rfl
theorem isIn_bit (s : SG) (b k : Int32) : m_cmp .ne (F_isIn s b k) 0 = m_cmp .ne ((b >>> (k &&& 31)) &&& 1) 0 := by
  show m_cmp .ne (bif m_cmp .ne ((b >>> (k &&& 31)) &&& 1) 1 then (0 : Int32) else (1 : Int32)) 0 = _
  rcases and_one (b >>> (k &&& 31)) with e | e
  · rw [e]
    rfl
  · rw [e]
    rfl
/-- who sits where, how strong; rates, rudder; stream, home; what befalls -/
abbrev TI : Type := Nat × NI × NI × NI × NI × NI × Int32 × Int32 × (Nat → Int32 × Int32 × Int32)
abbrev jn (J : TI) : Nat := J.1
abbrev jso (J : TI) : NI := J.2.1
abbrev jpo (J : TI) : NI := J.2.2.1
abbrev jse (J : TI) : NI := J.2.2.2.1
abbrev jra (J : TI) : NI := J.2.2.2.2.1
abbrev jru (J : TI) : NI := J.2.2.2.2.2.1
abbrev jst (J : TI) : Int32 := J.2.2.2.2.2.2.1
abbrev jho (J : TI) : Int32 := J.2.2.2.2.2.2.2.1
abbrev jbe (J : TI) : Nat → Int32 × Int32 × Int32 := J.2.2.2.2.2.2.2.2
def frs (so po : Int32) : Int32 := bif m_cmp .ne so 1 then (bif m_cmp .ne so 2 then po else po - 1) else po + 2
def ltr (so po : Int32) : Int32 := bif m_cmp .ne so 1 then (bif m_cmp .ne so 2 then po else po + 1) else po - 1
def pby (so po mn : Int32) : Int32 := bif m_cmp .ge mn 6 then ltr so po else frs so po
/-- metres, place, there, minutes and sums of each -/
abbrev TS : Type := Int32 × Int32 × Int32 × NI × NI
abbrev sme (x : TS) : Int32 := x.1
abbrev spl' (x : TS) : Int32 := x.2.1
abbrev sth (x : TS) : Int32 := x.2.2.1
abbrev smn (x : TS) : NI := x.2.2.2.1
abbrev ssm (x : TS) : NI := x.2.2.2.2
def pon (J : TI) (t : Nat) (x : TS) (k : Nat) : Bool := bif m_cmp .ne (sth x) (-1) then false else (bif m_cmp .le (jra J t) 0 then false else (bif m_cmp .ne (((jbe J t).1 >>> (jse J k &&& 31)) &&& 1) 0 then false else true))
def pul (J : TI) (t : Nat) (x : TS) (k : Nat) : Int32 := bif pon J t x k then pby (jso J k) (jpo J k) (smn x k) else 0
def lstep (J : TI) (t : Nat) (x : TS) (k : Nat) (y : Int32 × Int32) : Int32 × Int32 := bif m_cmp .ne (jse J k - jse J k / 2 * 2) 0 then (y.1, y.2 + pul J t x k) else (y.1 + pul J t x k, y.2)
def lrs (J : TI) (t : Nat) (x : TS) (i : Nat) : Int32 × Int32 := itr (lstep J t x) 0 i (0, 0)
def mn' (J : TI) (t : Nat) (x : TS) (k : Nat) : Int32 := bif pon J t x k then smn x k + 1 else smn x k
def sm' (J : TI) (t : Nat) (x : TS) (k : Nat) : Int32 := bif pon J t x k then ssm x k + pul J t x k else ssm x k
/-- where the boat would come to -/
def beh (J : TI) (t : Nat) (x : TS) : Int32 := ((spl' x + (jra J t * ((lrs J t x (jn J)).1 - (lrs J t x (jn J)).2)) / 6) + (bif m_cmp .ne (jru J t) 2 then (bif m_cmp .ne (jru J t) 1 then (0 : Int32) else (-1 : Int32)) else (1 : Int32))) + (jbe J t).2.1
def grd (J : TI) (t : Nat) (x : TS) : Bool := bif m_cmp .le (beh J t x) 0 then true else m_cmp .ge (beh J t x) 20
def pl' (J : TI) (t : Nat) (x : TS) : Int32 := bif m_cmp .le (beh J t x) 0 then 0 else (bif m_cmp .ge (beh J t x) 20 then 20 else beh J t x)
def way (J : TI) (t : Nat) (x : TS) : Int32 := (jra J t * (((lrs J t x (jn J)).1 + (lrs J t x (jn J)).2) / 2) + jst J) + (jbe J t).2.2
def me' (J : TI) (t : Nat) (x : TS) : Int32 := sme x + (bif grd J t x then way J t x / 2 else way J t x)
def gr' (J : TI) (t : Nat) (x : TS) : Int32 := bif m_cmp .ne (sth x) (-1) then 0 else (bif grd J t x then 1 else 0)
def tst (J : TI) (t : Nat) (x : TS) : TS := (bif m_cmp .ne (sth x) (-1) then sme x else me' J t x, bif m_cmp .ne (sth x) (-1) then spl' x else pl' J t x, bif m_cmp .ne (sth x) (-1) then sth x else (bif m_cmp .lt (me' J t x) (jho J) then -1 else Int32.ofNat t), mn' J t x, sm' J t x)
def trip (J : TI) : Nat → TS
  | 0 => (0, 10, -1, fun _ => 0, fun _ => 0)
  | t + 1 => tst J t (trip J t)
def gma (J : TI) (i : Nat) : Int32 := itr (fun t x => x + gr' J t (trip J t)) 0 i 0
def gfi (J : TI) (i : Nat) : Int32 := itr (fun t x => bif m_cmp .eq (gr' J t (trip J t)) 0 then x else (bif m_cmp .ne x (-1) then x else Int32.ofNat t)) 0 i (-1)
def offP (p : Int32) : Int32 := bif m_cmp .ge p 10 then p - 10 else 10 - p
def far (J : TI) (i : Nat) : Int32 := itr (fun t x => bif m_cmp .le (offP (spl' (trip J (t + 1)))) x then x else offP (spl' (trip J (t + 1)))) 0 i 0
/-! the model -/
def inM (s : SG) : TI := ((s 123 2).toNatClampNeg, s 126, s 127, s 135, s 133, s 134, s 123 9, s 123 10, befM s)
theorem pby_m (so po mn : Int32) : po + (bif m_cmp .ne so 1 then (bif m_cmp .ne so 2 then (0 : Int32) else (bif m_cmp .eq (bif m_cmp .ge mn 6 then (0 : Int32) else (1 : Int32)) 0 then (1 : Int32) else (-1 : Int32))) else (bif m_cmp .eq (bif m_cmp .ge mn 6 then (0 : Int32) else (1 : Int32)) 0 then (-1 : Int32) else (2 : Int32))) = pby so po mn := by
  unfold pby frs ltr
  have e : po + (-1) = po - 1 := by rw [Int32.sub_eq_add_neg]
  cases m_cmp .ne so 1
  · cases m_cmp .ge mn 6
    · rfl
    · exact e
  · cases m_cmp .ne so 2
    · cases m_cmp .ge mn 6
      · exact e
      · rfl
    · cases m_cmp .ge mn 6
      · exact Int32.add_zero _
      · exact Int32.add_zero _
theorem par8 : ∀ j, j < 8 → (Int32.ofNat j - Int32.ofNat j / 2 * 2 = 0 ∨ Int32.ofNat j - Int32.ofNat j / 2 * 2 = 1) := by decide
theorem idx8 {t k : Nat} (ht : t < 24) (hk : k < 8) : ((8 * Int32.ofNat t) + Int32.ofNat k).toNatClampNeg = 8 * t + k := by
  rw [show (8 * Int32.ofNat t) + Int32.ofNat k = Int32.ofNat (8 * t + k) from ofn_add (ofn_mul rfl rfl) rfl]
  exact Int32.toNatClampNeg_ofNat_of_lt (by omega)
/-- what the loop over the rowers comes to -/
def LoM (s : SG) (t : Nat) (x : TS) (i : Nat) (a : SG) : Prop := Fr W_goes s a ∧ a 123 19 = s 123 19 ∧ a 123 20 = s 123 20 ∧ a 123 22 = s 123 22 ∧ a 123 23 = s 123 23 ∧ a 142 = s 142 ∧ a 136 0 = (lrs (inM s) t x i).1 ∧ a 136 1 = (lrs (inM s) t x i).2 ∧ ∀ k, k < 8 → (a 137 k = if k < i then mn' (inM s) t x k else s 137 k) ∧ (a 138 k = if k < i then sm' (inM s) t x k else s 138 k) ∧ (a 143 (8 * t + k) = if k < i then pul (inM s) t x k else s 143 (8 * t + k))
theorem loM {s : SG} {t : Nat} {x : TS} (ht : t < 24) (hn : (s 123 2).toNatClampNeg ≤ 8) (hb : ((s 123 25, s 123 26, s 123 27) : Int32 × Int32 × Int32) = befM s t) (hth : s 123 21 = sth x) (h1 : sth x = -1) (hs0 : s 136 0 = 0) (hs1 : s 136 1 = 0) (hse : ∀ k, k < 8 → ∃ j, j < 8 ∧ s 135 k = Int32.ofNat j) (hmn : ∀ k, k < (s 123 2).toNatClampNeg → s 137 k = smn x k) (hsm : ∀ k, k < (s 123 2).toNatClampNeg → s 138 k = ssm x k) (hp0 : ∀ k, k < 8 → s 143 (8 * t + k) = 0) : ∀ i, i ≤ (s 123 2).toNatClampNeg → LoM s t x i (itr (B_goes_7 t (s 133 t)) 0 i s) := by
  refine itr_ind (LoM s t x) _ ?_ ?_
  · refine ⟨Fr.rf _ _, rfl, rfl, rfl, rfl, rfl, hs0, hs1, fun k _ => ⟨?_, ?_, ?_⟩⟩ <;> rw [if_neg (by omega)]
  · intro i a hi h
    obtain ⟨f, a1, a2, a3, a4, a5, a6, a7, a8⟩ := h
    have hi8 : i < 8 := by omega
    have e25 : s 123 25 = (befM s t).1 := by rw [← hb]
    have f25 : a 123 25 = (befM s t).1 := by rw [f 123 25 rfl]; exact e25
    have f135 : a 135 i = s 135 i := f 135 i rfl
    have hpon : pon (inM s) t x i = bif m_cmp .le (s 133 t) 0 then false else (bif m_cmp .ne ((((befM s t).1) >>> (s 135 i &&& 31)) &&& 1) 0 then false else true) := by
      unfold pon
      rw [h1]
      rfl
    have hl : lrs (inM s) t x (i + 1) = lstep (inM s) t x i (lrs (inM s) t x i) := itr_0 _ _ _
    have hfr : Fr W_goes s (B_goes_7 t (s 133 t) i a) := f.tr (fr_B_goes_7 t (s 133 t) i a)
    cases hon : pon (inM s) t x i with
    | false =>
      have hB : B_goes_7 t (s 133 t) i a = a := by
        unfold B_goes_7
        rw [hon] at hpon
        dsimp only
        rw [isIn_bit, f25, f135]
        cases c1 : m_cmp .le (s 133 t) 0 with
        | true => rfl
        | false =>
          rw [c1] at hpon
          cases c2 : m_cmp .ne ((((befM s t).1) >>> (s 135 i &&& 31)) &&& 1) 0 with
          | true => rfl
          | false =>
            rw [c2] at hpon
            cases hpon
      have hp : pul (inM s) t x i = 0 := by unfold pul; rw [hon]; rfl
      have hl2 : lrs (inM s) t x (i + 1) = lrs (inM s) t x i := by
        rw [hl]
        unfold lstep
        rw [hp, Int32.add_zero, Int32.add_zero]
        cases m_cmp .ne (jse (inM s) i - jse (inM s) i / 2 * 2) 0 <;> rfl
      rw [hB]
      refine ⟨f, a1, a2, a3, a4, a5, by rw [hl2]; exact a6, by rw [hl2]; exact a7, fun k hk => ?_⟩
      obtain ⟨b1, b2, b3⟩ := a8 k hk
      by_cases e : k = i
      · subst e
        rw [if_neg (by omega)] at b1 b2 b3
        rw [if_pos (by omega), if_pos (by omega), if_pos (by omega), b1, b2, b3]
        refine ⟨?_, ?_, ?_⟩
        · unfold mn'; rw [hon]; exact hmn k hi
        · unfold sm'; rw [hon]; exact hsm k hi
        · rw [hp]; exact hp0 k hk
      · by_cases e2 : k < i
        · rw [if_pos e2] at b1 b2 b3
          rw [if_pos (by omega), if_pos (by omega), if_pos (by omega)]
          exact ⟨b1, b2, b3⟩
        · rw [if_neg e2] at b1 b2 b3
          rw [if_neg (by omega), if_neg (by omega), if_neg (by omega)]
          exact ⟨b1, b2, b3⟩
    | true =>
      have hB : B_goes_7 t (s 133 t) i a = F_pullsOne a t i := by
        unfold B_goes_7
        rw [hon] at hpon
        dsimp only
        rw [isIn_bit, f25, f135]
        cases c1 : m_cmp .le (s 133 t) 0 with
        | true => rw [c1] at hpon; cases hpon
        | false =>
          rw [c1] at hpon
          cases c2 : m_cmp .ne ((((befM s t).1) >>> (s 135 i &&& 31)) &&& 1) 0 with
          | true => rw [c2] at hpon; cases hpon
          | false => rfl
      obtain ⟨b1, b2, b3⟩ := a8 i hi8
      rw [if_neg (by omega)] at b1 b2 b3
      have hp : pul (inM s) t x i = pby (s 126 i) (s 127 i) (a 137 i) := by
        unfold pul
        rw [hon, b1, hmn i hi]
        rfl
      have e126 : a 126 i = s 126 i := f 126 i rfl
      have e127 : a 127 i = s 127 i := f 127 i rfl
      obtain ⟨j, hj, ej⟩ := hse i hi8
      have hF : F_pullsOne a t i = uset (uset (uset (uset a 143 (8 * t + i) (pul (inM s) t x i)) 137 i (a 137 i + 1)) 138 i (a 138 i + pul (inM s) t x i)) 136 (s 135 i - s 135 i / 2 * 2).toNatClampNeg (a 136 (s 135 i - s 135 i / 2 * 2).toNatClampNeg + pul (inM s) t x i) := by
        rw [hp, ← e126, ← e127, ← pby_m, ← idx8 ht hi8, ← f135]
        rfl
      rw [hB] at hfr ⊢
      rw [hF] at hfr ⊢
      have hmi : mn' (inM s) t x i = a 137 i + 1 := by unfold mn'; rw [hon, b1, hmn i hi]; rfl
      have hsi : sm' (inM s) t x i = a 138 i + pul (inM s) t x i := by unfold sm'; rw [hon, b2, hsm i hi]; rfl
      refine ⟨hfr, a1, a2, a3, a4, a5, ?_, ?_, fun k hk => ⟨?_, ?_, ?_⟩⟩
      · rw [hl]
        unfold lstep
        show uset _ 136 (s 135 i - s 135 i / 2 * 2).toNatClampNeg _ 136 0 = (bif m_cmp .ne (s 135 i - s 135 i / 2 * 2) 0 then _ else _ : Int32 × Int32).1
        rw [ej]
        rcases par8 j hj with e | e
        · rw [e]
          show a 136 0 + _ = _
          rw [a6]
          rfl
        · rw [e]
          show a 136 0 = _
          rw [a6]
          rfl
      · rw [hl]
        unfold lstep
        show uset _ 136 (s 135 i - s 135 i / 2 * 2).toNatClampNeg _ 136 1 = (bif m_cmp .ne (s 135 i - s 135 i / 2 * 2) 0 then _ else _ : Int32 × Int32).2
        rw [ej]
        rcases par8 j hj with e | e
        · rw [e]
          show a 136 1 = _
          rw [a7]
          rfl
        · rw [e]
          show a 136 1 + _ = _
          rw [a7]
          rfl
      · show uset a 137 i (a 137 i + 1) 137 k = _
        by_cases e : k = i
        · subst e
          rw [uset_eq, if_pos (by omega), hmi]
        · rw [uset_nj e, (a8 k hk).1]
          by_cases e2 : k < i
          · rw [if_pos e2, if_pos (by omega)]
          · rw [if_neg e2, if_neg (by omega)]
      · show uset a 138 i (a 138 i + pul (inM s) t x i) 138 k = _
        by_cases e : k = i
        · subst e
          rw [uset_eq, if_pos (by omega), hsi]
        · rw [uset_nj e, (a8 k hk).2.1]
          by_cases e2 : k < i
          · rw [if_pos e2, if_pos (by omega)]
          · rw [if_neg e2, if_neg (by omega)]
      · show uset a 143 (8 * t + i) (pul (inM s) t x i) 143 (8 * t + k) = _
        by_cases e : k = i
        · subst e
          rw [uset_eq, if_pos (by omega)]
        · rw [uset_nj (by omega), (a8 k hk).2.2]
          by_cases e2 : k < i
          · rw [if_pos e2, if_pos (by omega)]
          · rw [if_neg e2, if_neg (by omega)]
theorem neg_bm (y : Int32) (h : -2147483648 < y.toInt) : (-y).toInt = -y.toInt := by
  rw [Int32.toInt_neg]
  have h1 := i32_le y
  exact Int.bmod_eq_of_le (by omega) (by omega)
theorem drift (ra d : Int32) (h : -2147483648 < (ra * d).toInt) : -((ra * (-d)) / 6) = (ra * d) / 6 := by
  rw [Int32.mul_neg]
  generalize ra * d = y at h
  apply Int32.toInt_inj.mp
  have e6 : (6 : Int32).toInt = 6 := by decide
  have q : (-y / 6).toInt = -(y.toInt.tdiv 6) := by
    rw [Int32.toInt_div_of_ne_right _ _ (by decide), neg_bm y h, e6, Int.neg_tdiv]
  have q2 : (y / 6).toInt = y.toInt.tdiv 6 := by rw [Int32.toInt_div_of_ne_right _ _ (by decide), e6]
  have b := i32_le (y / 6)
  rw [q2] at b
  rw [neg_bm (-y / 6) (by rw [q]; omega), q, q2]
  omega
theorem mle_iff {x y : Int32} : m_cmp .le x y = true ↔ x.toInt ≤ y.toInt := ⟨fun h => Int32.le_iff_toInt_le.mp (of_decide_eq_true h), fun h => decide_eq_true (Int32.le_iff_toInt_le.mpr h)⟩
def grdB (b : Int32) : Bool := bif m_cmp .le b 0 then true else m_cmp .ge b 20
theorem lt_ge (x y : Int32) : m_cmp .lt x y = !(m_cmp .ge x y) := by
  cases c : m_cmp .ge x y with
  | true =>
    have h1 := m_ge_iff.mp c
    cases d : m_cmp .lt x y with
    | true =>
      have := m_lt_iff.mp d
      omega
    | false => rfl
  | false =>
    have h1 := m_ff m_ge_iff c
    exact m_lt_iff.mpr (by omega)
theorem ground_eq' (b : Int32) : m_cmp .eq (bif m_cmp .le b 0 then (1 : Int32) else (bif m_cmp .lt b 20 then (0 : Int32) else (1 : Int32))) 0 = !(grdB b) := by
  unfold grdB
  rw [lt_ge]
  cases m_cmp .le b 0
  · cases m_cmp .ge b 20 <;> rfl
  · rfl
theorem clampE (b : Int32) : (bif m_cmp .ge b 0 then (bif m_cmp .le b 20 then b else (20 : Int32)) else (0 : Int32)) = (bif m_cmp .le b 0 then 0 else (bif m_cmp .ge b 20 then 20 else b)) := by
  have hz : (0 : Int32).toInt = 0 := by decide
  have hw : (20 : Int32).toInt = 20 := by decide
  cases c1 : m_cmp .le b 0 with
  | true =>
    have d1 := mle_iff.mp c1
    cases c2 : m_cmp .ge b 0 with
    | true =>
      have d2 := m_ge_iff.mp c2
      have e : b = 0 := Int32.toInt_inj.mp (by omega)
      subst e
      rfl
    | false => rfl
  | false =>
    have d1 := m_ff mle_iff c1
    have c2 : m_cmp .ge b 0 = true := m_ge_iff.mpr (by omega)
    rw [c2]
    cases c3 : m_cmp .ge b 20 with
    | true =>
      have d3 := m_ge_iff.mp c3
      cases c4 : m_cmp .le b 20 with
      | true =>
        have d4 := mle_iff.mp c4
        have e : b = 20 := Int32.toInt_inj.mp (by omega)
        subst e
        rfl
      | false => rfl
    | false =>
      have d3 := m_ff m_ge_iff c3
      have c4 : m_cmp .le b 20 = true := mle_iff.mpr (by omega)
      rw [c4]
      rfl
theorem ground_eq (J : TI) (t : Nat) (x : TS) : m_cmp .eq (bif m_cmp .le (beh J t x) 0 then (1 : Int32) else (bif m_cmp .lt (beh J t x) 20 then (0 : Int32) else (1 : Int32))) 0 = !(grd J t x) := ground_eq' _
/-- what a minute comes to, as the model has it -/
def GoM (s : SG) (t : Nat) (x : TS) (g : SG) : Prop := Fr W_goes s g ∧ g 123 19 = me' (inM s) t x ∧ g 123 20 = pl' (inM s) t x ∧ g 123 21 = (bif m_cmp .lt (me' (inM s) t x) (s 123 10) then -1 else Int32.ofNat t) ∧ (∀ k, g 142 k = if k = t then gr' (inM s) t x else s 142 k) ∧ g 123 22 = s 123 22 + gr' (inM s) t x ∧ g 123 23 = (bif m_cmp .eq (gr' (inM s) t x) 0 then s 123 23 else (bif m_cmp .ne (s 123 23) (-1) then s 123 23 else Int32.ofNat t)) ∧ g 136 0 = (lrs (inM s) t x (jn (inM s))).1 ∧ g 136 1 = (lrs (inM s) t x (jn (inM s))).2 ∧ ∀ k, k < (s 123 2).toNatClampNeg → g 137 k = mn' (inM s) t x k ∧ g 138 k = sm' (inM s) t x k ∧ g 143 (8 * t + k) = pul (inM s) t x k
theorem goM {s : SG} {t : Nat} {x : TS} (ht : t < 24) (hn : (s 123 2).toNatClampNeg ≤ 8) (hb : ((s 123 25, s 123 26, s 123 27) : Int32 × Int32 × Int32) = befM s t) (hth : s 123 21 = sth x) (h1 : sth x = -1) (hs0 : s 136 0 = 0) (hs1 : s 136 1 = 0) (hse : ∀ k, k < 8 → ∃ j, j < 8 ∧ s 135 k = Int32.ofNat j) (hmn : ∀ k, k < (s 123 2).toNatClampNeg → s 137 k = smn x k) (hsm : ∀ k, k < (s 123 2).toNatClampNeg → s 138 k = ssm x k) (hp0 : ∀ k, k < 8 → s 143 (8 * t + k) = 0) (hme : s 123 19 = sme x) (hpl : s 123 20 = spl' x) (hov : -2147483648 < (s 133 t * ((lrs (inM s) t x (jn (inM s))).1 - (lrs (inM s) t x (jn (inM s))).2)).toInt) : GoM s t x (F_goes s t) := by
  have L := loM ht hn hb hth h1 hs0 hs1 hse hmn hsm hp0 _ (Nat.le_refl _)
  obtain ⟨f, a1, a2, a3, a4, a5, a6, a7, a8⟩ := L
  have hfr := fr_goes s t
  have e9 : itr (B_goes_7 t (s 133 t)) 0 (s 123 2).toNatClampNeg s 123 9 = s 123 9 := f 123 9 rfl
  have e10 : itr (B_goes_7 t (s 133 t)) 0 (s 123 2).toNatClampNeg s 123 10 = s 123 10 := f 123 10 rfl
  have e26 : itr (B_goes_7 t (s 133 t)) 0 (s 123 2).toNatClampNeg s 123 26 = (befM s t).2.1 := (f 123 26 rfl).trans (by rw [← hb])
  have e27 : itr (B_goes_7 t (s 133 t)) 0 (s 123 2).toNatClampNeg s 123 27 = (befM s t).2.2 := (f 123 27 rfl).trans (by rw [← hb])
  have e134 : itr (B_goes_7 t (s 133 t)) 0 (s 123 2).toNatClampNeg s 134 t = s 134 t := f 134 t rfl
  unfold F_goes at hfr ⊢
  dsimp only at hfr ⊢
  generalize itr (B_goes_7 t (s 133 t)) 0 (s 123 2).toNatClampNeg s = z at *
  have a6 : z 136 0 = (lrs (inM s) t x (jn (inM s))).1 := a6
  have a7 : z 136 1 = (lrs (inM s) t x (jn (inM s))).2 := a7
  have hdr : (bif m_cmp .le (z 136 0 - z 136 1) 0 then -((s 133 t * (-(z 136 0 - z 136 1))) / 6) else (s 133 t * (z 136 0 - z 136 1)) / 6) = (s 133 t * ((lrs (inM s) t x (jn (inM s))).1 - (lrs (inM s) t x (jn (inM s))).2)) / 6 := by
    rw [a6, a7, drift _ _ hov]
    cases m_cmp .le _ (0 : Int32) <;> rfl
  have hbe : ((z 123 20 + (bif m_cmp .le (z 136 0 - z 136 1) 0 then -((s 133 t * (-(z 136 0 - z 136 1))) / 6) else (s 133 t * (z 136 0 - z 136 1)) / 6)) + (bif m_cmp .ne (z 134 t) 2 then (bif m_cmp .ne (z 134 t) 1 then (0 : Int32) else (-1 : Int32)) else (1 : Int32))) + z 123 26 = beh (inM s) t x := by
    rw [hdr, a2, hpl, e134, e26]
    rfl
  have hwy : ((s 133 t * ((z 136 0 + z 136 1) / 2)) + z 123 9) + z 123 27 = way (inM s) t x := by
    rw [a6, a7, e9, e27]
    rfl
  have hgr : gr' (inM s) t x = (bif grd (inM s) t x then 1 else 0) := by
    unfold gr'
    rw [h1]
    rfl
  rw [hbe, hwy, ground_eq, clampE]
  have hg : m_cmp .eq (gr' (inM s) t x) 0 = !(grd (inM s) t x) := by
    rw [hgr]
    cases grd (inM s) t x <;> rfl
  have hv21 : (bif !(grd (inM s) t x) then (0 : Int32) else (1 : Int32)) = gr' (inM s) t x := by
    rw [hgr]
    cases grd (inM s) t x <;> rfl
  have hv19 : (bif !(grd (inM s) t x) then way (inM s) t x else way (inM s) t x / 2) = (bif grd (inM s) t x then way (inM s) t x / 2 else way (inM s) t x) := by
    cases grd (inM s) t x <;> rfl
  have hm : z 123 19 + (bif !(grd (inM s) t x) then way (inM s) t x else way (inM s) t x / 2) = me' (inM s) t x := by
    rw [hv19, a1, hme]
    rfl
  rw [hbe, hwy, ground_eq, clampE] at hfr
  refine ⟨hfr, hm, rfl, ?_, fun k => ?_, ?_, ?_, a6, a7, fun k hk => ?_⟩
  · show (bif m_cmp .lt (z 123 19 + _) (z 123 10) then (-1 : Int32) else Int32.ofNat t) = _
    rw [hm, e10]
  · show (if 142 = 142 ∧ k = t then (bif !(grd (inM s) t x) then (0 : Int32) else (1 : Int32)) else z 142 k) = _
    rw [hv21]
    by_cases e : k = t
    · rw [if_pos ⟨rfl, e⟩, if_pos e]
    · rw [if_neg (fun q => e q.2), if_neg e, a5]
  · show z 123 22 + (if 142 = 142 ∧ t = t then (bif !(grd (inM s) t x) then (0 : Int32) else (1 : Int32)) else z 142 t) = _
    rw [if_pos ⟨rfl, rfl⟩, hv21, a3]
  · show (bif !(grd (inM s) t x) then z 123 23 else (bif m_cmp .ne (z 123 23) (-1) then z 123 23 else Int32.ofNat t)) = _
    rw [hg, a4]
  · obtain ⟨b1, b2, b3⟩ := a8 k (by omega)
    rw [if_pos hk] at b1 b2 b3
    exact ⟨b1, b2, b3⟩
/-! the model's minutes, one after the other -/
def goB (s : SG) (t : Nat) : SG := itr (B_goesBy_20 t) 0 8 (uset (uset (uset (F_befalls s t) 136 0 0) 136 1 0) 142 t 0)
theorem goB_sp (s : SG) (t : Nat) : Fr W_goesBy s (goB s t) ∧ (goB s t) 136 0 = 0 ∧ (goB s t) 136 1 = 0 ∧ (goB s t) 142 t = 0 ∧ (∀ k, k ≠ t → (goB s t) 142 k = s 142 k) ∧ (∀ k, k < 8 → (goB s t) 143 (8 * t + k) = 0) ∧ (∀ j, ¬ (8 * t ≤ j ∧ j < 8 * t + 8) → (goB s t) 143 j = s 143 j) ∧ (∀ a j, a ≠ 143 → (goB s t) a j = uset (uset (uset (F_befalls s t) 136 0 0) 136 1 0) 142 t 0 a j) := by
  have key : ∀ i, i ≤ 8 → (∀ k, k < i → itr (B_goesBy_20 t) 0 i (uset (uset (uset (F_befalls s t) 136 0 0) 136 1 0) 142 t 0) 143 (8 * t + k) = 0) ∧ (∀ j, ¬ (8 * t ≤ j ∧ j < 8 * t + i) → itr (B_goesBy_20 t) 0 i (uset (uset (uset (F_befalls s t) 136 0 0) 136 1 0) 142 t 0) 143 j = F_befalls s t 143 j) ∧ (∀ a j, a ≠ 143 → itr (B_goesBy_20 t) 0 i (uset (uset (uset (F_befalls s t) 136 0 0) 136 1 0) 142 t 0) a j = uset (uset (uset (F_befalls s t) 136 0 0) 136 1 0) 142 t 0 a j) := by
    intro i
    induction i with
    | zero => exact fun _ => ⟨fun k hk => absurd hk (by omega), fun j _ => rfl, fun a j _ => rfl⟩
    | succ i ih =>
      intro hi
      obtain ⟨h1, h2, h3⟩ := ih (by omega)
      rw [itr_0]
      generalize itr (B_goesBy_20 t) 0 i (uset (uset (uset (F_befalls s t) 136 0 0) 136 1 0) 142 t 0) = a at *
      have e : B_goesBy_20 t i a = uset a 143 (8 * t + i) 0 := rfl
      rw [e]
      refine ⟨fun k hk => ?_, fun j hj => ?_, fun b j hb => ?_⟩
      · by_cases q : k = i
        · subst q
          exact uset_eq _ _ _ _
        · rw [uset_nj (by omega)]
          exact h1 k (by omega)
      · rw [uset_nj (by omega)]
        exact h2 j (by omega)
      · rw [uset_na hb]
        exact h3 b j hb
  obtain ⟨h1, h2, h3⟩ := key 8 (Nat.le_refl _)
  have fb := fr_befalls s t
  refine ⟨?_, ?_, ?_, ?_, fun k hk => ?_, h1, fun j hj => (h2 j hj).trans (fb 143 j rfl), h3⟩
  · exact frItrB (W := W_goesBy) (m := fun x : SG => x) (f := B_goesBy_20 t) 8 (fun i a h => Fr.uset (by rfl) (Fr.rf _ _)) 8 0 _ (by omega) (Fr.uset (by rfl) (Fr.uset (by rfl) (Fr.uset (by rfl) (Fr.wk fb (by rfl)))))
  · exact h3 136 0 (by decide)
  · exact h3 136 1 (by decide)
  · exact (h3 142 t (by decide)).trans (uset_eq _ _ _ _)
  · exact (h3 142 k (by decide)).trans ((uset_nj hk).trans (fb 142 k rfl))
