/-! trips of like inputs are alike -/
def eqJ (J K : TI) : Prop := jn J = jn K ∧ (∀ k, k < jn J → jso J k = jso K k ∧ jpo J k = jpo K k ∧ jse J k = jse K k) ∧ (∀ t, t < 24 → jra J t = jra K t ∧ jru J t = jru K t ∧ jbe J t = jbe K t) ∧ jst J = jst K ∧ jho J = jho K
def eqT (n : Nat) (x y : TS) : Prop := sme x = sme y ∧ spl' x = spl' y ∧ sth x = sth y ∧ ∀ k, k < n → smn x k = smn y k ∧ ssm x k = ssm y k
theorem eqJ.symm {J K : TI} (h : eqJ J K) : eqJ K J := ⟨h.1.symm, fun k hk => by
    obtain ⟨a, b, c⟩ := h.2.1 k (by rw [h.1]; exact hk)
    exact ⟨a.symm, b.symm, c.symm⟩, fun t ht => by
    obtain ⟨a, b, c⟩ := h.2.2.1 t ht
    exact ⟨a.symm, b.symm, c.symm⟩, h.2.2.2.1.symm, h.2.2.2.2.symm⟩
section CNG
variable {J K : TI} {t k : Nat} {x y : TS}
theorem itr_z {α : Type} (f : Nat → α → α) (lo : Nat) (a : α) : itr f lo 0 a = a := rfl
theorem pon_c (h : eqJ J K) (ht : t < 24) (e : eqT (jn J) x y) (hk : k < jn J) : pon J t x k = pon K t y k := by
  unfold pon
  rw [e.2.2.1, (h.2.2.1 t ht).1, (h.2.2.1 t ht).2.2, (h.2.1 k hk).2.2]
theorem pul_c (h : eqJ J K) (ht : t < 24) (e : eqT (jn J) x y) (hk : k < jn J) : pul J t x k = pul K t y k := by
  unfold pul
  rw [pon_c h ht e hk, (h.2.1 k hk).1, (h.2.1 k hk).2.1, (e.2.2.2 k hk).1]
theorem lrs_c (h : eqJ J K) (ht : t < 24) (e : eqT (jn J) x y) : ∀ i, i ≤ jn J → lrs J t x i = lrs K t y i := by
  intro i
  induction i with
  | zero =>
    intro _
    unfold lrs
    rw [itr_z, itr_z]
  | succ i ih =>
    intro hi
    have e1 : lrs J t x (i + 1) = lstep J t x i (lrs J t x i) := itr_0 _ _ _
    have e2 : lrs K t y (i + 1) = lstep K t y i (lrs K t y i) := itr_0 _ _ _
    rw [e1, e2, ih (by omega)]
    unfold lstep
    rw [pul_c h ht e (by omega), (h.2.1 i (by omega)).2.2]
theorem lrsn_c (h : eqJ J K) (ht : t < 24) (e : eqT (jn J) x y) : lrs J t x (jn J) = lrs K t y (jn K) := by
  rw [lrs_c h ht e _ (Nat.le_refl _), h.1]
theorem beh_c (h : eqJ J K) (ht : t < 24) (e : eqT (jn J) x y) : beh J t x = beh K t y := by
  unfold beh
  rw [lrsn_c h ht e, e.2.1, (h.2.2.1 t ht).1, (h.2.2.1 t ht).2.1, (h.2.2.1 t ht).2.2]
theorem way_c (h : eqJ J K) (ht : t < 24) (e : eqT (jn J) x y) : way J t x = way K t y := by
  unfold way
  rw [lrsn_c h ht e, (h.2.2.1 t ht).1, h.2.2.2.1, (h.2.2.1 t ht).2.2]
theorem grd_c (h : eqJ J K) (ht : t < 24) (e : eqT (jn J) x y) : grd J t x = grd K t y := by
  unfold grd
  rw [beh_c h ht e]
theorem me_c (h : eqJ J K) (ht : t < 24) (e : eqT (jn J) x y) : me' J t x = me' K t y := by
  unfold me'
  rw [grd_c h ht e, way_c h ht e, e.1]
theorem pl_c (h : eqJ J K) (ht : t < 24) (e : eqT (jn J) x y) : pl' J t x = pl' K t y := by
  unfold pl'
  rw [beh_c h ht e]
theorem gr_c (h : eqJ J K) (ht : t < 24) (e : eqT (jn J) x y) : gr' J t x = gr' K t y := by
  unfold gr'
  rw [grd_c h ht e, e.2.2.1]
theorem tst_c (h : eqJ J K) (ht : t < 24) (e : eqT (jn J) x y) : eqT (jn J) (tst J t x) (tst K t y) := by
  refine ⟨?_, ?_, ?_, fun k hk => ⟨?_, ?_⟩⟩
  · show (bif m_cmp .ne (sth x) (-1) then sme x else me' J t x) = (bif m_cmp .ne (sth y) (-1) then sme y else me' K t y)
    rw [me_c h ht e, e.2.2.1, e.1]
  · show (bif m_cmp .ne (sth x) (-1) then spl' x else pl' J t x) = (bif m_cmp .ne (sth y) (-1) then spl' y else pl' K t y)
    rw [pl_c h ht e, e.2.2.1, e.2.1]
  · show (bif m_cmp .ne (sth x) (-1) then sth x else (bif m_cmp .lt (me' J t x) (jho J) then -1 else Int32.ofNat t)) = (bif m_cmp .ne (sth y) (-1) then sth y else (bif m_cmp .lt (me' K t y) (jho K) then -1 else Int32.ofNat t))
    rw [me_c h ht e, e.2.2.1, h.2.2.2.2]
  · show mn' J t x k = mn' K t y k
    unfold mn'
    rw [pon_c h ht e hk, (e.2.2.2 k hk).1]
  · show sm' J t x k = sm' K t y k
    unfold sm'
    rw [pon_c h ht e hk, pul_c h ht e hk, (e.2.2.2 k hk).2]
theorem trip_c (h : eqJ J K) : ∀ t, t ≤ 24 → eqT (jn J) (trip J t) (trip K t)
  | 0, _ => ⟨rfl, rfl, rfl, fun _ _ => ⟨rfl, rfl⟩⟩
  | t + 1, ht => tst_c h (by omega) (trip_c h t (by omega))
theorem gr_t (h : eqJ J K) (ht : t < 24) : gr' J t (trip J t) = gr' K t (trip K t) := gr_c h ht (trip_c h t (by omega))
theorem lrs_t (h : eqJ J K) (ht : t < 24) : lrs J t (trip J t) (jn J) = lrs K t (trip K t) (jn K) := lrsn_c h ht (trip_c h t (by omega))
theorem pul_t (h : eqJ J K) (ht : t < 24) (hk : k < jn J) : pul J t (trip J t) k = pul K t (trip K t) k := pul_c h ht (trip_c h t (by omega)) hk
theorem gma_0 (J : TI) : gma J 0 = 0 := by
  unfold gma
  exact itr_z _ _ _
theorem gma_c (h : eqJ J K) (i : Nat) : i ≤ 24 → gma J i = gma K i := by
  induction i with
  | zero =>
    intro _
    rw [gma_0, gma_0]
  | succ i ih =>
    intro hi
    have g := gr_t (J := J) (K := K) (t := i) h (by omega)
    have e1 := gma_s J i
    have e2 := gma_s K i
    have e3 := ih (by omega)
    generalize gr' J i (trip J i) = p at *
    generalize gr' K i (trip K i) = q at *
    generalize gma J (i + 1) = a at *
    generalize gma K (i + 1) = b at *
    generalize gma J i = c at *
    generalize gma K i = d at *
    subst g
    subst e3
    exact e1.trans e2.symm
theorem gfi_0 (J : TI) : gfi J 0 = (-1) := by
  unfold gfi
  exact itr_z _ _ _
theorem gfi_c (h : eqJ J K) (i : Nat) : i ≤ 24 → gfi J i = gfi K i := by
  induction i with
  | zero =>
    intro _
    rw [gfi_0, gfi_0]
  | succ i ih =>
    intro hi
    have g := gr_t (J := J) (K := K) (t := i) h (by omega)
    have e1 := gfi_s J i
    have e2 := gfi_s K i
    have e3 := ih (by omega)
    generalize gr' J i (trip J i) = p at *
    generalize gr' K i (trip K i) = q at *
    generalize gfi J (i + 1) = a at *
    generalize gfi K (i + 1) = b at *
    generalize gfi J i = c at *
    generalize gfi K i = d at *
    subst g
    subst e3
    exact e1.trans e2.symm
theorem far_0 (J : TI) : far J 0 = 0 := by
  unfold far
  exact itr_z _ _ _
theorem far_c (h : eqJ J K) (i : Nat) : i ≤ 24 → far J i = far K i := by
  induction i with
  | zero =>
    intro _
    rw [far_0, far_0]
  | succ i ih =>
    intro hi
    have e : spl' (tst J i (trip J i)) = spl' (tst K i (trip K i)) := (trip_c h (i + 1) hi).2.1
    rw [far_s, far_s, ih (by omega), e]
theorem ov_c (h : eqJ J K) (o : ovJ K) : ovJ J := fun t ht => by
  rw [lrs_t h ht, (h.2.2.1 t ht).1]
  exact o t ht
end CNG
