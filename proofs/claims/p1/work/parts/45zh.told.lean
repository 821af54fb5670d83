/-! what the model reads, all of it; the texts of both sides -/
def lnM (s : SG) : Prop := 0 ≤ (s 124 0).toInt ∧ (s 124 0).toNatClampNeg ≤ 23 ∧ (s 124 1).toNatClampNeg ≤ 24 ∧ (s 124 2).toNatClampNeg ≤ 24
theorem flM {s : SG} (h : lnM s) : CrE s (F_readsCrew s).1 (F_reads s) ∧ (F_readsRates (F_readsCrew s).2).1 = flt fitRb (s 124 1) (fun k => s 125 (24 * 1 + k)) ∧ (F_readsRudder (F_readsRates (F_readsCrew s).2).2).1 = flt fitDb (s 124 2) (fun k => s 125 (24 * 2 + k)) ∧ (F_reads s) 123 5 = manyS fitRb (s 124 1) (fun k => s 125 (24 * 1 + k)) ∧ (F_reads s) 123 7 = manyS fitDb (s 124 2) (fun k => s 125 (24 * 2 + k)) ∧ ∀ t, t < 24 → (F_reads s) 128 t = ratS (s 124 1) (fun k => s 125 (24 * 1 + k)) t ∧ (F_reads s) 129 t = rudS (s 124 2) (fun k => s 125 (24 * 2 + k)) t := by
  obtain ⟨h0, h1, h2, h3⟩ := h
  have eR : F_reads s = (F_readsRudder (F_readsRates (F_readsCrew s).2).2).2 := by
    unfold F_reads F_faultOf
    dsimp only
  have f1 := fr_readsCrew s
  have f2 := fr_readsRates (F_readsCrew s).2
  have f3 := fr_readsRudder (F_readsRates (F_readsCrew s).2).2
  have C := rd_C h0 h1
  generalize (F_readsCrew s).1 = x at *
  generalize (F_readsCrew s).2 = z1 at *
  have a1 : z1 124 1 = s 124 1 := f1 124 1 rfl
  have b1 : ∀ j, z1 125 j = s 125 j := fun j => f1 125 j rfl
  have R := rd_R (s := z1) (by rw [a1]; exact h2)
  have g1 : (fun k => z1 125 (24 * 1 + k)) = fun k => s 125 (24 * 1 + k) := funext (fun k => b1 _)
  rw [a1, g1] at R
  have a2 : (F_readsRates z1).2 124 2 = s 124 2 := (f2 124 2 rfl).trans (f1 124 2 rfl)
  have b2 : ∀ j, (F_readsRates z1).2 125 j = s 125 j := fun j => (f2 125 j rfl).trans (f1 125 j rfl)
  have D := rd_D (s := (F_readsRates z1).2) (by rw [a2]; exact h3)
  have g2 : (fun k => (F_readsRates z1).2 125 (24 * 2 + k)) = fun k => s 125 (24 * 2 + k) := funext (fun k => b2 _)
  rw [a2, g2] at D
  rw [eR]
  refine ⟨⟨C.1, ?_, fun k hk => ⟨?_, ?_⟩⟩, R.1, D.1, ?_, D.2.1, fun t ht => ⟨?_, D.2.2 t ht⟩⟩
  · rw [f3 123 2 rfl, f2 123 2 rfl]; exact C.2.1
  · rw [f3 126 k rfl, f2 126 k rfl]; exact (C.2.2 k hk).1
  · rw [f3 127 k rfl, f2 127 k rfl]; exact (C.2.2 k hk).2
  · rw [f3 123 5 rfl]; exact R.2.1
  · rw [f3 128 t rfl]; exact R.2.2 t ht
/-- the texts are alike -/
def KT (s : SG) : Prop := lnM s ∧ s 109 1 = s 124 0 ∧ s 111 1 = s 124 1 ∧ s 113 1 = s 124 2 ∧ (∀ k, k < (s 124 0).toNatClampNeg → s 110 k = s 125 k) ∧ (∀ k, k < (s 124 1).toNatClampNeg → s 112 k = s 125 (24 * 1 + k)) ∧ ∀ k, k < (s 124 2).toNatClampNeg → s 114 k = s 125 (24 * 2 + k)
/-- the class has told what the model reads -/
def KD (s : SG) : Prop := s 10 0 = (F_reads s) 123 2 ∧ (∀ k, k < (s 10 0).toNatClampNeg → s 11 k = (F_reads s) 126 k ∧ s 12 k = (F_reads s) 127 k) ∧ ∀ t, t < 24 → s 13 t = (F_reads s) 128 t ∧ s 14 t = (F_reads s) 129 t
/-- the faults are alike: promise 5's answers -/
theorem faults {s : SG} (h : KT s) : F_crewFault s = (F_readsCrew s).1 ∧ F_signFault_1 s = (F_readsRates (F_readsCrew s).2).1 ∧ F_signFault_2 s = (F_readsRudder (F_readsRates (F_readsCrew s).2).2).1 := by
  obtain ⟨hl, e0, e1, e2, t0, t1, t2⟩ := h
  obtain ⟨C, R, D, -⟩ := flM hl
  refine ⟨?_, ?_, ?_⟩
  · have c := crC (s := s) (by rw [e0]; exact hl.1) (by rw [e0]; exact hl.2.1)
    rw [e0] at c
    exact CrS.uniq (c.cong t0) C.1
  · rw [sf1, R, e1]
    exact flt_cong t1
  · rw [sf2, D, e2]
    exact flt_cong t2
