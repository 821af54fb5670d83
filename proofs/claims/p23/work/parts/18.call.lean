/-! calls and returns; THE SMALL MACHINE IS SOUND -/
theorem i_ii {f : Int32 → Int32 → Int32} {i : Nat} {L : ML} {st : List Value} {h : MH} {q : (Nat × List Value × List Value) ⊕ Option Value} (hm : o_ii f i L st h = some (.inr q)) : False := by
  unfold o_ii at hm
  repeat' split at hm
  all_goals first | (cases hm; done) | (unfold o_nx at hm; cases hm; done) | (have hm2 := (b_if hm).2; unfold o_nx at hm2; cases hm2; done) | (have hm2 := (b_if hm).2; repeat' split at hm2; all_goals (first | (cases hm2; done) | (unfold o_nx at hm2; cases hm2; done))) | (cases hq : m_cmp _ _ _ <;> rw [hq] at hm <;> (first | (cases hm; done) | (unfold o_nx at hm; cases hm; done)))
theorem i_id {f : Int32 → Int32 → Int32} {i : Nat} {L : ML} {st : List Value} {h : MH} {q : (Nat × List Value × List Value) ⊕ Option Value} (hm : o_id f i L st h = some (.inr q)) : False := by
  unfold o_id at hm
  repeat' split at hm
  all_goals first | (cases hm; done) | (unfold o_nx at hm; cases hm; done) | (have hm2 := (b_if hm).2; unfold o_nx at hm2; cases hm2; done) | (have hm2 := (b_if hm).2; repeat' split at hm2; all_goals (first | (cases hm2; done) | (unfold o_nx at hm2; cases hm2; done))) | (cases hq : m_cmp _ _ _ <;> rw [hq] at hm <;> (first | (cases hm; done) | (unfold o_nx at hm; cases hm; done)))
theorem i_jj {f : Int64 → Int64 → Int64} {i : Nat} {L : ML} {st : List Value} {h : MH} {q : (Nat × List Value × List Value) ⊕ Option Value} (hm : o_jj f i L st h = some (.inr q)) : False := by
  unfold o_jj at hm
  repeat' split at hm
  all_goals first | (cases hm; done) | (unfold o_nx at hm; cases hm; done) | (have hm2 := (b_if hm).2; unfold o_nx at hm2; cases hm2; done) | (have hm2 := (b_if hm).2; repeat' split at hm2; all_goals (first | (cases hm2; done) | (unfold o_nx at hm2; cases hm2; done))) | (cases hq : m_cmp _ _ _ <;> rw [hq] at hm <;> (first | (cases hm; done) | (unfold o_nx at hm; cases hm; done)))
theorem i_jd {f : Int64 → Int64 → Int64} {i : Nat} {L : ML} {st : List Value} {h : MH} {q : (Nat × List Value × List Value) ⊕ Option Value} (hm : o_jd f i L st h = some (.inr q)) : False := by
  unfold o_jd at hm
  repeat' split at hm
  all_goals first | (cases hm; done) | (unfold o_nx at hm; cases hm; done) | (have hm2 := (b_if hm).2; unfold o_nx at hm2; cases hm2; done) | (have hm2 := (b_if hm).2; repeat' split at hm2; all_goals (first | (cases hm2; done) | (unfold o_nx at hm2; cases hm2; done))) | (cases hq : m_cmp _ _ _ <;> rw [hq] at hm <;> (first | (cases hm; done) | (unfold o_nx at hm; cases hm; done)))
theorem i_i1 {f : Int32 → Value} {i : Nat} {L : ML} {st : List Value} {h : MH} {q : (Nat × List Value × List Value) ⊕ Option Value} (hm : o_i1 f i L st h = some (.inr q)) : False := by
  unfold o_i1 at hm
  repeat' split at hm
  all_goals first | (cases hm; done) | (unfold o_nx at hm; cases hm; done) | (have hm2 := (b_if hm).2; unfold o_nx at hm2; cases hm2; done) | (have hm2 := (b_if hm).2; repeat' split at hm2; all_goals (first | (cases hm2; done) | (unfold o_nx at hm2; cases hm2; done))) | (cases hq : m_cmp _ _ _ <;> rw [hq] at hm <;> (first | (cases hm; done) | (unfold o_nx at hm; cases hm; done)))
theorem i_lshl {i : Nat} {L : ML} {st : List Value} {h : MH} {q : (Nat × List Value × List Value) ⊕ Option Value} (hm : o_lshl i L st h = some (.inr q)) : False := by
  unfold o_lshl at hm
  repeat' split at hm
  all_goals first | (cases hm; done) | (unfold o_nx at hm; cases hm; done) | (have hm2 := (b_if hm).2; unfold o_nx at hm2; cases hm2; done) | (have hm2 := (b_if hm).2; repeat' split at hm2; all_goals (first | (cases hm2; done) | (unfold o_nx at hm2; cases hm2; done))) | (cases hq : m_cmp _ _ _ <;> rw [hq] at hm <;> (first | (cases hm; done) | (unfold o_nx at hm; cases hm; done)))
theorem i_lcmp {i : Nat} {L : ML} {st : List Value} {h : MH} {q : (Nat × List Value × List Value) ⊕ Option Value} (hm : o_lcmp i L st h = some (.inr q)) : False := by
  unfold o_lcmp at hm
  repeat' split at hm
  all_goals first | (cases hm; done) | (unfold o_nx at hm; cases hm; done) | (have hm2 := (b_if hm).2; unfold o_nx at hm2; cases hm2; done) | (have hm2 := (b_if hm).2; repeat' split at hm2; all_goals (first | (cases hm2; done) | (unfold o_nx at hm2; cases hm2; done))) | (cases hq : m_cmp _ _ _ <;> rw [hq] at hm <;> (first | (cases hm; done) | (unfold o_nx at hm; cases hm; done)))
theorem i_il {k i : Nat} {L : ML} {st : List Value} {h : MH} {q : (Nat × List Value × List Value) ⊕ Option Value} (hm : o_il k i L st h = some (.inr q)) : False := by
  unfold o_il at hm
  repeat' split at hm
  all_goals first | (cases hm; done) | (unfold o_nx at hm; cases hm; done) | (have hm2 := (b_if hm).2; unfold o_nx at hm2; cases hm2; done) | (have hm2 := (b_if hm).2; repeat' split at hm2; all_goals (first | (cases hm2; done) | (unfold o_nx at hm2; cases hm2; done))) | (cases hq : m_cmp _ _ _ <;> rw [hq] at hm <;> (first | (cases hm; done) | (unfold o_nx at hm; cases hm; done)))
theorem i_jl {k i : Nat} {L : ML} {st : List Value} {h : MH} {q : (Nat × List Value × List Value) ⊕ Option Value} (hm : o_jl k i L st h = some (.inr q)) : False := by
  unfold o_jl at hm
  repeat' split at hm
  all_goals first | (cases hm; done) | (unfold o_nx at hm; cases hm; done) | (have hm2 := (b_if hm).2; unfold o_nx at hm2; cases hm2; done) | (have hm2 := (b_if hm).2; repeat' split at hm2; all_goals (first | (cases hm2; done) | (unfold o_nx at hm2; cases hm2; done))) | (cases hq : m_cmp _ _ _ <;> rw [hq] at hm <;> (first | (cases hm; done) | (unfold o_nx at hm; cases hm; done)))
theorem i_al {k i : Nat} {L : ML} {st : List Value} {h : MH} {q : (Nat × List Value × List Value) ⊕ Option Value} (hm : o_al k i L st h = some (.inr q)) : False := by
  unfold o_al at hm
  repeat' split at hm
  all_goals first | (cases hm; done) | (unfold o_nx at hm; cases hm; done) | (have hm2 := (b_if hm).2; unfold o_nx at hm2; cases hm2; done) | (have hm2 := (b_if hm).2; repeat' split at hm2; all_goals (first | (cases hm2; done) | (unfold o_nx at hm2; cases hm2; done))) | (cases hq : m_cmp _ _ _ <;> rw [hq] at hm <;> (first | (cases hm; done) | (unfold o_nx at hm; cases hm; done)))
theorem i_is {k i : Nat} {L : ML} {st : List Value} {h : MH} {q : (Nat × List Value × List Value) ⊕ Option Value} (hm : o_is k i L st h = some (.inr q)) : False := by
  unfold o_is at hm
  repeat' split at hm
  all_goals first | (cases hm; done) | (unfold o_nx at hm; cases hm; done) | (have hm2 := (b_if hm).2; unfold o_nx at hm2; cases hm2; done) | (have hm2 := (b_if hm).2; repeat' split at hm2; all_goals (first | (cases hm2; done) | (unfold o_nx at hm2; cases hm2; done))) | (cases hq : m_cmp _ _ _ <;> rw [hq] at hm <;> (first | (cases hm; done) | (unfold o_nx at hm; cases hm; done)))
theorem i_js {k i : Nat} {L : ML} {st : List Value} {h : MH} {q : (Nat × List Value × List Value) ⊕ Option Value} (hm : o_js k i L st h = some (.inr q)) : False := by
  unfold o_js at hm
  repeat' split at hm
  all_goals first | (cases hm; done) | (unfold o_nx at hm; cases hm; done) | (have hm2 := (b_if hm).2; unfold o_nx at hm2; cases hm2; done) | (have hm2 := (b_if hm).2; repeat' split at hm2; all_goals (first | (cases hm2; done) | (unfold o_nx at hm2; cases hm2; done))) | (cases hq : m_cmp _ _ _ <;> rw [hq] at hm <;> (first | (cases hm; done) | (unfold o_nx at hm; cases hm; done)))
theorem i_as {k i : Nat} {L : ML} {st : List Value} {h : MH} {q : (Nat × List Value × List Value) ⊕ Option Value} (hm : o_as k i L st h = some (.inr q)) : False := by
  unfold o_as at hm
  repeat' split at hm
  all_goals first | (cases hm; done) | (unfold o_nx at hm; cases hm; done) | (have hm2 := (b_if hm).2; unfold o_nx at hm2; cases hm2; done) | (have hm2 := (b_if hm).2; repeat' split at hm2; all_goals (first | (cases hm2; done) | (unfold o_nx at hm2; cases hm2; done))) | (cases hq : m_cmp _ _ _ <;> rw [hq] at hm <;> (first | (cases hm; done) | (unfold o_nx at hm; cases hm; done)))
theorem i_inc {k : Nat} {n : Int} {i : Nat} {L : ML} {st : List Value} {h : MH} {q : (Nat × List Value × List Value) ⊕ Option Value} (hm : o_inc k n i L st h = some (.inr q)) : False := by
  unfold o_inc at hm
  repeat' split at hm
  all_goals first | (cases hm; done) | (unfold o_nx at hm; cases hm; done) | (have hm2 := (b_if hm).2; unfold o_nx at hm2; cases hm2; done) | (have hm2 := (b_if hm).2; repeat' split at hm2; all_goals (first | (cases hm2; done) | (unfold o_nx at hm2; cases hm2; done))) | (cases hq : m_cmp _ _ _ <;> rw [hq] at hm <;> (first | (cases hm; done) | (unfold o_nx at hm; cases hm; done)))
theorem i_dup {i : Nat} {L : ML} {st : List Value} {h : MH} {q : (Nat × List Value × List Value) ⊕ Option Value} (hm : o_dup i L st h = some (.inr q)) : False := by
  unfold o_dup at hm
  repeat' split at hm
  all_goals first | (cases hm; done) | (unfold o_nx at hm; cases hm; done) | (have hm2 := (b_if hm).2; unfold o_nx at hm2; cases hm2; done) | (have hm2 := (b_if hm).2; repeat' split at hm2; all_goals (first | (cases hm2; done) | (unfold o_nx at hm2; cases hm2; done))) | (cases hq : m_cmp _ _ _ <;> rw [hq] at hm <;> (first | (cases hm; done) | (unfold o_nx at hm; cases hm; done)))
theorem i_dup2 {i : Nat} {L : ML} {st : List Value} {h : MH} {q : (Nat × List Value × List Value) ⊕ Option Value} (hm : o_dup2 i L st h = some (.inr q)) : False := by
  unfold o_dup2 at hm
  repeat' split at hm
  all_goals first | (cases hm; done) | (unfold o_nx at hm; cases hm; done) | (have hm2 := (b_if hm).2; unfold o_nx at hm2; cases hm2; done) | (have hm2 := (b_if hm).2; repeat' split at hm2; all_goals (first | (cases hm2; done) | (unfold o_nx at hm2; cases hm2; done))) | (cases hq : m_cmp _ _ _ <;> rw [hq] at hm <;> (first | (cases hm; done) | (unfold o_nx at hm; cases hm; done)))
theorem i_pop {i : Nat} {L : ML} {st : List Value} {h : MH} {q : (Nat × List Value × List Value) ⊕ Option Value} (hm : o_pop i L st h = some (.inr q)) : False := by
  unfold o_pop at hm
  repeat' split at hm
  all_goals first | (cases hm; done) | (unfold o_nx at hm; cases hm; done) | (have hm2 := (b_if hm).2; unfold o_nx at hm2; cases hm2; done) | (have hm2 := (b_if hm).2; repeat' split at hm2; all_goals (first | (cases hm2; done) | (unfold o_nx at hm2; cases hm2; done))) | (cases hq : m_cmp _ _ _ <;> rw [hq] at hm <;> (first | (cases hm; done) | (unfold o_nx at hm; cases hm; done)))
theorem i_pop2 {i : Nat} {L : ML} {st : List Value} {h : MH} {q : (Nat × List Value × List Value) ⊕ Option Value} (hm : o_pop2 i L st h = some (.inr q)) : False := by
  unfold o_pop2 at hm
  repeat' split at hm
  all_goals first | (cases hm; done) | (unfold o_nx at hm; cases hm; done) | (have hm2 := (b_if hm).2; unfold o_nx at hm2; cases hm2; done) | (have hm2 := (b_if hm).2; repeat' split at hm2; all_goals (first | (cases hm2; done) | (unfold o_nx at hm2; cases hm2; done))) | (cases hq : m_cmp _ _ _ <;> rw [hq] at hm <;> (first | (cases hm; done) | (unfold o_nx at hm; cases hm; done)))
theorem i_if {c : Jvm.ClassFile.Cond} {t i : Nat} {L : ML} {st : List Value} {h : MH} {q : (Nat × List Value × List Value) ⊕ Option Value} (hm : o_if c t i L st h = some (.inr q)) : False := by
  unfold o_if at hm
  repeat' split at hm
  all_goals first | (cases hm; done) | (unfold o_nx at hm; cases hm; done) | (have hm2 := (b_if hm).2; unfold o_nx at hm2; cases hm2; done) | (have hm2 := (b_if hm).2; repeat' split at hm2; all_goals (first | (cases hm2; done) | (unfold o_nx at hm2; cases hm2; done))) | (cases hq : m_cmp _ _ _ <;> rw [hq] at hm <;> (first | (cases hm; done) | (unfold o_nx at hm; cases hm; done)))
theorem i_icmp {c : Jvm.ClassFile.Cond} {t i : Nat} {L : ML} {st : List Value} {h : MH} {q : (Nat × List Value × List Value) ⊕ Option Value} (hm : o_icmp c t i L st h = some (.inr q)) : False := by
  unfold o_icmp at hm
  repeat' split at hm
  all_goals first | (cases hm; done) | (unfold o_nx at hm; cases hm; done) | (have hm2 := (b_if hm).2; unfold o_nx at hm2; cases hm2; done) | (have hm2 := (b_if hm).2; repeat' split at hm2; all_goals (first | (cases hm2; done) | (unfold o_nx at hm2; cases hm2; done))) | (cases hq : m_cmp _ _ _ <;> rw [hq] at hm <;> (first | (cases hm; done) | (unfold o_nx at hm; cases hm; done)))
theorem i_sw {lo hi : Int} {ops : List Int} {L : ML} {st : List Value} {h : MH} {q : (Nat × List Value × List Value) ⊕ Option Value} (hm : o_sw lo hi ops L st h = some (.inr q)) : False := by
  unfold o_sw at hm
  repeat' split at hm
  all_goals first | (cases hm; done) | (unfold o_nx at hm; cases hm; done) | (have hm2 := (b_if hm).2; unfold o_nx at hm2; cases hm2; done) | (have hm2 := (b_if hm).2; repeat' split at hm2; all_goals (first | (cases hm2; done) | (unfold o_nx at hm2; cases hm2; done))) | (cases hq : m_cmp _ _ _ <;> rw [hq] at hm <;> (first | (cases hm; done) | (unfold o_nx at hm; cases hm; done)))
theorem i_ald {fl : Bool} {xs : List Int32} {t i : Nat} {L : ML} {st : List Value} {h : MH} {q : (Nat × List Value × List Value) ⊕ Option Value} (hm : o_ald fl xs t i L st h = some (.inr q)) : False := by
  unfold o_ald at hm
  repeat' split at hm
  all_goals first | (cases hm; done) | (unfold o_nx at hm; cases hm; done) | (have hm2 := (b_if hm).2; unfold o_nx at hm2; cases hm2; done) | (have hm2 := (b_if hm).2; repeat' split at hm2; all_goals (first | (cases hm2; done) | (unfold o_nx at hm2; cases hm2; done))) | (cases hq : m_cmp _ _ _ <;> rw [hq] at hm <;> (first | (cases hm; done) | (unfold o_nx at hm; cases hm; done)))
theorem i_ast {t i : Nat} {L : ML} {st : List Value} {h : MH} {q : (Nat × List Value × List Value) ⊕ Option Value} (hm : o_ast t i L st h = some (.inr q)) : False := by
  unfold o_ast at hm
  repeat' split at hm
  all_goals first | (cases hm; done) | (unfold o_nx at hm; cases hm; done) | (have hm2 := (b_if hm).2; unfold o_nx at hm2; cases hm2; done) | (have hm2 := (b_if hm).2; repeat' split at hm2; all_goals (first | (cases hm2; done) | (unfold o_nx at hm2; cases hm2; done))) | (cases hq : m_cmp _ _ _ <;> rw [hq] at hm <;> (first | (cases hm; done) | (unfold o_nx at hm; cases hm; done)))
theorem i_aald {i : Nat} {L : ML} {st : List Value} {h : MH} {q : (Nat × List Value × List Value) ⊕ Option Value} (hm : o_aald i L st h = some (.inr q)) : False := by
  unfold o_aald at hm
  repeat' split at hm
  all_goals first | (cases hm; done) | (unfold o_nx at hm; cases hm; done) | (have hm2 := (b_if hm).2; unfold o_nx at hm2; cases hm2; done) | (have hm2 := (b_if hm).2; repeat' split at hm2; all_goals (first | (cases hm2; done) | (unfold o_nx at hm2; cases hm2; done))) | (cases hq : m_cmp _ _ _ <;> rw [hq] at hm <;> (first | (cases hm; done) | (unfold o_nx at hm; cases hm; done)))
theorem i_aast {i : Nat} {L : ML} {st : List Value} {h : MH} {q : (Nat × List Value × List Value) ⊕ Option Value} (hm : o_aast i L st h = some (.inr q)) : False := by
  unfold o_aast at hm
  repeat' split at hm
  all_goals first | (cases hm; done) | (unfold o_nx at hm; cases hm; done) | (have hm2 := (b_if hm).2; unfold o_nx at hm2; cases hm2; done) | (have hm2 := (b_if hm).2; repeat' split at hm2; all_goals (first | (cases hm2; done) | (unfold o_nx at hm2; cases hm2; done))) | (cases hq : m_cmp _ _ _ <;> rw [hq] at hm <;> (first | (cases hm; done) | (unfold o_nx at hm; cases hm; done)))
theorem i_len {fl : Bool} {xs : List Int32} {i : Nat} {L : ML} {st : List Value} {h : MH} {q : (Nat × List Value × List Value) ⊕ Option Value} (hm : o_len fl xs i L st h = some (.inr q)) : False := by
  unfold o_len at hm
  repeat' split at hm
  all_goals first | (cases hm; done) | (unfold o_nx at hm; cases hm; done) | (have hm2 := (b_if hm).2; unfold o_nx at hm2; cases hm2; done) | (have hm2 := (b_if hm).2; repeat' split at hm2; all_goals (first | (cases hm2; done) | (unfold o_nx at hm2; cases hm2; done))) | (cases hq : m_cmp _ _ _ <;> rw [hq] at hm <;> (first | (cases hm; done) | (unfold o_nx at hm; cases hm; done)))
theorem i_newa {t i : Nat} {L : ML} {st : List Value} {h : MH} {q : (Nat × List Value × List Value) ⊕ Option Value} (hm : o_newa t i L st h = some (.inr q)) : False := by
  unfold o_newa at hm
  repeat' split at hm
  all_goals first | (cases hm; done) | (unfold o_nx at hm; cases hm; done) | (have hm2 := (b_if hm).2; unfold o_nx at hm2; cases hm2; done) | (have hm2 := (b_if hm).2; repeat' split at hm2; all_goals (first | (cases hm2; done) | (unfold o_nx at hm2; cases hm2; done))) | (cases hq : m_cmp _ _ _ <;> rw [hq] at hm <;> (first | (cases hm; done) | (unfold o_nx at hm; cases hm; done)))
theorem i_newq {t i : Nat} {L : ML} {st : List Value} {h : MH} {q : (Nat × List Value × List Value) ⊕ Option Value} (hm : o_newq t i L st h = some (.inr q)) : False := by
  unfold o_newq at hm
  repeat' split at hm
  all_goals first | (cases hm; done) | (unfold o_nx at hm; cases hm; done) | (have hm2 := (b_if hm).2; unfold o_nx at hm2; cases hm2; done) | (have hm2 := (b_if hm).2; repeat' split at hm2; all_goals (first | (cases hm2; done) | (unfold o_nx at hm2; cases hm2; done))) | (cases hq : m_cmp _ _ _ <;> rw [hq] at hm <;> (first | (cases hm; done) | (unfold o_nx at hm; cases hm; done)))
theorem i_newm {i : Nat} {L : ML} {st : List Value} {h : MH} {q : (Nat × List Value × List Value) ⊕ Option Value} (hm : o_newm i L st h = some (.inr q)) : False := by
  unfold o_newm at hm
  repeat' split at hm
  all_goals first | (cases hm; done) | (unfold o_nx at hm; cases hm; done) | (have hm2 := (b_if hm).2; unfold o_nx at hm2; cases hm2; done) | (have hm2 := (b_if hm).2; repeat' split at hm2; all_goals (first | (cases hm2; done) | (unfold o_nx at hm2; cases hm2; done))) | (cases hq : m_cmp _ _ _ <;> rw [hq] at hm <;> (first | (cases hm; done) | (unfold o_nx at hm; cases hm; done)))
theorem i_get {ci k i : Nat} {L : ML} {st : List Value} {h : MH} {q : (Nat × List Value × List Value) ⊕ Option Value} (hm : o_get ci k i L st h = some (.inr q)) : False := by
  unfold o_get at hm
  repeat' split at hm
  all_goals first | (cases hm; done) | (unfold o_nx at hm; cases hm; done) | (have hm2 := (b_if hm).2; unfold o_nx at hm2; cases hm2; done) | (have hm2 := (b_if hm).2; repeat' split at hm2; all_goals (first | (cases hm2; done) | (unfold o_nx at hm2; cases hm2; done))) | (cases hq : m_cmp _ _ _ <;> rw [hq] at hm <;> (first | (cases hm; done) | (unfold o_nx at hm; cases hm; done)))
theorem i_put {ci k tc i : Nat} {L : ML} {st : List Value} {h : MH} {q : (Nat × List Value × List Value) ⊕ Option Value} (hm : o_put ci k tc i L st h = some (.inr q)) : False := by
  unfold o_put at hm
  repeat' split at hm
  all_goals first | (cases hm; done) | (unfold o_nx at hm; cases hm; done) | (have hm2 := (b_if hm).2; unfold o_nx at hm2; cases hm2; done) | (have hm2 := (b_if hm).2; repeat' split at hm2; all_goals (first | (cases hm2; done) | (unfold o_nx at hm2; cases hm2; done))) | (cases hq : m_cmp _ _ _ <;> rw [hq] at hm <;> (first | (cases hm; done) | (unfold o_nx at hm; cases hm; done)))
theorem i_obj {i : Nat} {L : ML} {st : List Value} {h : MH} {q : (Nat × List Value × List Value) ⊕ Option Value} (hm : o_obj i L st h = some (.inr q)) : False := by
  unfold o_obj at hm
  repeat' split at hm
  all_goals first | (cases hm; done) | (unfold o_nx at hm; cases hm; done) | (have hm2 := (b_if hm).2; unfold o_nx at hm2; cases hm2; done) | (have hm2 := (b_if hm).2; repeat' split at hm2; all_goals (first | (cases hm2; done) | (unfold o_nx at hm2; cases hm2; done))) | (cases hq : m_cmp _ _ _ <;> rw [hq] at hm <;> (first | (cases hm; done) | (unfold o_nx at hm; cases hm; done)))
theorem i_cpy {i : Nat} {L : ML} {st : List Value} {h : MH} {q : (Nat × List Value × List Value) ⊕ Option Value} (hm : o_cpy i L st h = some (.inr q)) : False := by
  unfold o_cpy at hm
  repeat' split at hm
  all_goals first | (cases hm; done) | (unfold o_nx at hm; cases hm; done) | (have hm2 := (b_if hm).2; unfold o_nx at hm2; cases hm2; done) | (have hm2 := (b_if hm).2; repeat' split at hm2; all_goals (first | (cases hm2; done) | (unfold o_nx at hm2; cases hm2; done))) | (cases hq : m_cmp _ _ _ <;> rw [hq] at hm <;> (first | (cases hm; done) | (unfold o_nx at hm; cases hm; done)))
theorem i_mm {f : Int32 → Int32 → Int32} {i : Nat} {L : ML} {st : List Value} {h : MH} {q : (Nat × List Value × List Value) ⊕ Option Value} (hm : o_mm f i L st h = some (.inr q)) : False := by
  unfold o_mm at hm
  repeat' split at hm
  all_goals first | (cases hm; done) | (unfold o_nx at hm; cases hm; done) | (have hm2 := (b_if hm).2; unfold o_nx at hm2; cases hm2; done) | (have hm2 := (b_if hm).2; repeat' split at hm2; all_goals (first | (cases hm2; done) | (unfold o_nx at hm2; cases hm2; done))) | (cases hq : m_cmp _ _ _ <;> rw [hq] at hm <;> (first | (cases hm; done) | (unfold o_nx at hm; cases hm; done)))
theorem i_ma {i : Nat} {L : ML} {st : List Value} {h : MH} {q : (Nat × List Value × List Value) ⊕ Option Value} (hm : o_ma i L st h = some (.inr q)) : False := by
  unfold o_ma at hm
  repeat' split at hm
  all_goals first | (cases hm; done) | (unfold o_nx at hm; cases hm; done) | (have hm2 := (b_if hm).2; unfold o_nx at hm2; cases hm2; done) | (have hm2 := (b_if hm).2; repeat' split at hm2; all_goals (first | (cases hm2; done) | (unfold o_nx at hm2; cases hm2; done))) | (cases hq : m_cmp _ _ _ <;> rw [hq] at hm <;> (first | (cases hm; done) | (unfold o_nx at hm; cases hm; done)))
theorem i_new {fs : List Value} {ci i : Nat} {L : ML} {st : List Value} {h : MH} {q : (Nat × List Value × List Value) ⊕ Option Value} (hm : o_new fs ci i L st h = some (.inr q)) : False := by
  unfold o_new o_nx at hm
  cases hm
theorem i_nx {i : Nat} {L : ML} {st : List Value} {h : MH} {q : (Nat × List Value × List Value) ⊕ Option Value} (hm : o_nx i L st h = some (.inr q)) : False := by
  unfold o_nx at hm
  cases hm
theorem j_ret {z : Nat} {st : List Value} {q : Nat × List Value × List Value} (hm : o_ret z st = some (.inr (.inl q))) : False := by
  unfold o_ret at hm
  split at hm
  · have := (b_if hm).2; cases this
  · cases hm
theorem j_lret {st : List Value} {q : Nat × List Value × List Value} (hm : o_lret st = some (.inr (.inl q))) : False := by
  unfold o_lret at hm
  split at hm <;> cases hm
theorem j_aret {st : List Value} {q : Nat × List Value × List Value} (hm : o_aret st = some (.inr (.inl q))) : False := by
  unfold o_aret at hm
  split at hm <;> cases hm
theorem j_vret {st : List Value} {q : Nat × List Value × List Value} (hm : o_vret st = some (.inr (.inl q))) : False := by
  unfold o_vret at hm
  split at hm <;> cases hm
theorem k_cv {y n ci : Nat} {st : List Value} {h : MH} {q : Option Value} (hm : o_cv y n ci st h = some (.inr (.inr q))) : False := by
  unfold o_cv at hm
  split at hm
  · split at hm
    · have := (b_if hm).2; cases this
    · cases hm
  · cases hm
theorem k_cs {y n : Nat} {st : List Value} {q : Option Value} (hm : o_cs y n st = some (.inr (.inr q))) : False := by
  unfold o_cs at hm
  have := (b_if hm).2; cases this
theorem k_ci {y n : Nat} {st : List Value} {q : Option Value} (hm : o_ci y n st = some (.inr (.inr q))) : False := by
  unfold o_ci at hm
  split at hm
  · have := (b_if hm).2; cases this
  · cases hm
theorem v_cv {y n ci y1 : Nat} {st as rest : List Value} {h : MH} (hm : o_cv y n ci st h = some (.inr (.inl (y1, as, rest)))) : ∃ (x : Nat) (as1 : List Value) (fs : List Value), y1 = y ∧ as = .ref x :: as1 ∧ as1.length = n ∧ st = as1.reverse ++ .ref x :: rest ∧ (rest.map fun v => v.category).sum ≤ 8 ∧ h[x]? = some (.inr (ci, fs)) := by
  unfold o_cv at hm
  split at hm
  · rename_i x as1 hx
    split at hm
    · rename_i c2 fs hq
      obtain ⟨g1, g2⟩ := b_if hm
      obtain ⟨g1, g3⟩ := b_and g1
      obtain ⟨g3, g4⟩ := b_and g3
      have g1 : c2 = ci := by simpa using g1
      subst g1
      cases g2
      refine ⟨x, as1, fs, rfl, rfl, of_decide_eq_true g3, ?_, of_decide_eq_true g4, hq⟩
      have e1 : st.take (n + 1) = as1.reverse ++ [.ref x] := by rw [← List.reverse_reverse (st.take (n + 1)), hx, List.reverse_cons]
      have e2 := List.take_append_drop (n + 1) st
      rw [e1, List.append_assoc] at e2
      exact e2.symm
    · cases hm
  · cases hm
theorem v_ci {y n y1 : Nat} {st as rest : List Value} (hm : o_ci y n st = some (.inr (.inl (y1, as, rest)))) : ∃ (x : Nat) (as1 : List Value), y1 = y ∧ as = .ref x :: as1 ∧ as1.length = n ∧ st = as1.reverse ++ .ref x :: rest ∧ (rest.map fun v => v.category).sum ≤ 8 := by
  unfold o_ci at hm
  split at hm
  · rename_i x as1 hx
    obtain ⟨g1, g2⟩ := b_if hm
    obtain ⟨g3, g4⟩ := b_and g1
    cases g2
    refine ⟨x, as1, rfl, rfl, of_decide_eq_true g3, ?_, of_decide_eq_true g4⟩
    have e1 : st.take (n + 1) = as1.reverse ++ [.ref x] := by rw [← List.reverse_reverse (st.take (n + 1)), hx, List.reverse_cons]
    have e2 := List.take_append_drop (n + 1) st
    rw [e1, List.append_assoc] at e2
    exact e2.symm
  · cases hm
theorem v_cs {y n y1 : Nat} {st as rest : List Value} (hm : o_cs y n st = some (.inr (.inl (y1, as, rest)))) : y1 = y ∧ as.length = n ∧ st = as.reverse ++ rest ∧ (rest.map fun v => v.category).sum ≤ 8 := by
  unfold o_cs at hm
  obtain ⟨g1, g2⟩ := b_if hm
  obtain ⟨g3, g4⟩ := b_and g1
  cases g2
  refine ⟨rfl, by rw [List.length_reverse]; exact of_decide_eq_true g3, ?_, of_decide_eq_true g4⟩
  rw [List.reverse_reverse]
  exact (List.take_append_drop n st).symm
theorem zX.same {cs : Nat → ClassId} {D : va_G} {scr : Cell} {xs : List Int32} {u U : State} (hv : u.vm = U.vm) (h : zX cs D scr xs u) : zX cs D scr xs U := by
  have ha : u.vm.Alike U.vm := by rw [← hv]; exact Vm.Alike.refl _
  exact ⟨va_K.moved ha h.1, ⟨State.isArrayOf_alike ha h.2.1.1, h.2.1.2⟩, fun q hq => va_Nw.same rfl hv (h.2.2.1 q hq), h.2.2.2.1.moved ha, h.2.2.2.2.1.moved ha, h.2.2.2.2.2.moved ha⟩
def zPc (b base : Nat) (cs : Nat → ClassId) (D : va_G) (scr : Cell) (xs : List Int32) (h : MH) (as : List Value) : Array Value → State → Prop := va_Pc (as.map (zt b base)) (fun U => va_P D vwCl (zW b base cs h) U.heap ∧ U.heap.size = base + h.length ∧ U.heap[b]? = some scr ∧ zX cs D scr xs U)
def zQc (b base : Nat) (cs : Nat → ClassId) (D : va_G) (r : Option Value) (h1 : MH) : Array Value → State → Outcome → State → Prop := fun _ st o t => o = .returned (r.map (zt b base)) ∧ va_P D vwCl (zW b base cs h1) t.heap ∧ va_F (fun q => base ≤ q) st t
def zrm (M1 : MM) (h h1 : MH) : Room := { frames := mf M1, cells := h1.length - h.length, slots := zs h1 - zs h, locals := mw M1 }
def zcd (M1 : MM) : Jvm.Cond := .code (mn M1) (mb M1) (mx M1) (mt M1)
/-- the contract that a run of the small machine gives -/
def zMC (l : Launch) (b base : Nat) (cs : Nat → ClassId) (D : va_G) (scr : Cell) (xs : List Int32) (M1 : MM) (as : List Value) (h : MH) (r : Option Value) (h1 : MH) : Prop :=
  Met l (mn M1) (zcd M1 :: W0) (zrm M1 h h1) (zPc b base cs D scr xs h as) (zQc b base cs D r h1) (h1.length - h.length) (zs h1 - zs h) (fun q => base ≤ q)
theorem zPc_blind {b base : Nat} {cs : Nat → ClassId} {D : va_G} {scr : Cell} {xs : List Int32} {h : MH} {as : List Value} : FrameBlind (zPc b base cs D scr xs h as) := fun _ _ _ _ q => ⟨q.1, q.2.1, q.2.2.1, q.2.2.2.1, zX.same rfl q.2.2.2.2⟩
theorem W0_good {w : Jvm.Cond} (h : w ∈ W0) : w ∈ W0 ∧ ((w.onTables && w.keeps) = true ∨ ∃ ty, w = .arrayClass ty) := ⟨h, good_of_word (List.mem_filter.mp h).2⟩
theorem good_cd {M1 : MM} (hcw : zcd M1 ∈ W0) : GoodIn W0 (zcd M1 :: W0) := fun w hw => (List.mem_cons.mp hw).elim (fun q => by rw [q]; exact W0_good hcw) W0_good
section STP
variable {p : Program} {l : Launch} {e : Env} {R : Room} {s : State} {m : MethodId} {args : Array Value} {below : List Frame} {meth : Method} {c : Code} {Q : State → Prop} {b base k0 z0 : Nat} {cs : Nat → ClassId} {D : va_G} {scr : Cell} {xs : List Int32} {M : MM} {H : Heap} {locs : List Loc} {cells slots : Nat} {ls : Array Slot} {i i1 pc len : Nat} {L L1 : ML} {st st1 : List Value} {h h1 : MH}
theorem z_cont {mcc mss : Nat} {st0 rest : List Value} {r : Option Value} {a9 : Array Value} (hr : va_Run p l e R s m args below meth c H locs cells slots mcc mss (F0 m pc ls st0) rest (zQc b base cs D r h1 a9) (fun q => base ≤ q)) (hS : va_S (fun q => base ≤ q) s.heap H locs)
    (kk : ∀ (H1 : Heap) (locs1 : List Loc), va_P D vwCl (zW b base cs h1) H1 → va_S (fun q => base ≤ q) s.heap H1 locs1 → W p l e R s m args below meth c H1 locs1 (cells + mcc) (slots + mss) Q (F0 m (pc + 3) ls ((r.map (zt b base)).toList ++ rest))) : W p l e R s m args below meth c H locs cells slots Q (F0 m pc ls st0) := by
  intro T hT X
  obtain ⟨v, st₀, t, T', L9, h0, X', hL, e1, e2, ⟨hv, hp, hz, hk⟩, stp⟩ := hr T hT X
  cases hv
  rw [h0] at hz hk
  obtain ⟨t2, a1, b1⟩ := kk T'.heap (locs ++ L9) (by rw [e1]; exact hp)
    ⟨Nat.le_trans hS.1 (by rw [e1]; exact hz), fun q g1 g2 => by rw [e1, hk q (Nat.lt_of_lt_of_le g1 hS.1) g2]; exact hS.2.1 q g1 g2, fun q hq => by
      rcases List.mem_append.mp hq with g | g
      · exact hS.2.2 q g
      · exact hL q g⟩ T' rfl X'
  exact ⟨t2, stp t2 a1, b1⟩
theorem c_call_sp {M1 : MM} {n : Nat} (h : c_call M M1 n = true) : ((mn M1).cls ≠ "java/lang/invoke/MethodHandle" ∧ (mn M1).cls ≠ "java/lang/invoke/VarHandle" ∧ (parseMethodDescriptor (mn M1).desc).map (fun d => d.parameters.length) = some n) ∧ mf M1 + 1 ≤ mf M ∧ 8 + (mx M1 + 11) + mw M1 ≤ mw M := by
  unfold c_call at h
  obtain ⟨g1, g2⟩ := b_and h
  obtain ⟨g3, g4⟩ := b_and g1
  obtain ⟨g5, g6⟩ := b_and g2
  obtain ⟨g7, g8⟩ := b_and g6
  exact ⟨⟨of_decide_eq_true g3, of_decide_eq_true g4, of_decide_eq_true g5⟩, of_decide_eq_true g7, of_decide_eq_true g8⟩
theorem z_back {M1 : MM} {r : Option Value} {rest : List Value} (hn : c_nx M i pc 3 = true) (rl : zR b base (mx M) L ls) (hl : h.length = k0 + cells) (hz : zs h = z0 + slots) (hup : m_up h h1) (kk : zK p l e R s m args below meth c Q b base k0 z0 cs D M (i + 1) L (r.toList ++ rest) h1) : ∀ (H1 : Heap) (locs1 : List Loc), va_P D vwCl (zW b base cs h1) H1 → va_S (fun q => base ≤ q) s.heap H1 locs1 → W p l e R s m args below meth c H1 locs1 (cells + (h1.length - h.length)) (slots + (zs h1 - zs h)) Q (F0 m (pc + 3) ls ((r.map (zt b base)).toList ++ rest.map (zt b base))) := by
  intro H1 locs1 hP hS
  have := kn (ls := ls) (H := H1) (locs := locs1) (cells := cells + (h1.length - h.length)) (slots := slots + (zs h1 - zs h)) hn kk rl ⟨hP, hS, by have := hup.1; omega, by have := hup.2; omega⟩
  rw [List.map_append] at this
  have e1 : (r.map (zt b base)).toList = r.toList.map (zt b base) := by cases r <;> rfl
  rw [e1]
  exact this
theorem st_call {fl : Bool} {row : MR} {y : Nat} {as rest : List Value} {M1 : MM} {r : Option Value} (C : zC b base k0 cs D scr xs p R s m args meth c M) (hchk : m_chk m_tab M i row = true) (hm : mexec fl xs row.2.1 row.2.2.2 i L st h = some (.inr (.inl (y, as, rest)))) (hy : m_tab[y]? = some M1) (hcw : zcd M1 ∈ W0) (hM : zMC l b base cs D scr xs M1 as h r h1) (hup : m_up h h1) (hR1 : h1.length ≤ k0 + R.cells) (hR2 : zs h1 ≤ z0 + R.slots) (rl : zR b base (mx M) L ls) (a : zA b base k0 z0 cs D s h H locs cells slots) (kk : zK p l e R s m args below meth c Q b base k0 z0 cs D M (i + 1) L (r.toList ++ rest) h1) : W p l e R s m args below meth c H locs cells slots Q (F0 m row.1 ls (st.map (zt b base))) := by
  obtain ⟨pc, ins, len, ops⟩ := row
  have hscr := zA_scr C a
  obtain ⟨hx, hb, hml, hr, hown, hts, hlocks, hini, hX, hf, hw, hsz, hbb, hs0⟩ := C
  obtain ⟨hd1, hq1⟩ := b_and hchk
  obtain ⟨hlen, hq⟩ := b_and hq1
  have hd : decode (mb M) pc = .ok (ins, len) := of_decide_eq_true hd1
  clear hchk hd1 hq1
  have hl := a.2.2.1
  have hz := a.2.2.2
  have hu1 := hup.1
  have hu2 := hup.2
  have hS : CallFix p m c (mb M) (mx M) s args W0 (mn M).cls := ⟨hx, hb, hml, hown, hts⟩
  have hfit : cells + (h1.length - h.length) ≤ R.cells ∧ slots + (zs h1 - zs h) ≤ R.slots := by omega
  refine W_sz (fun hss => ?_)
  have hHs := zA_size hsz a hss
  have hpre : ∀ U : State, U.heap = H → s.WarmedH U.vm → zPc b base cs D scr xs h as (as.map (zt b base)).toArray U := fun U hU hW => ⟨rfl, by rw [hU]; exact a.1, by rw [hU]; exact hHs, by rw [hU]; exact hscr, zX.moved hW hX⟩
  cases ins
  case invokevirtual k =>
    obtain rfl := lenOf (k := 3) hlen rfl (by decide)
    obtain ⟨x, as1, fs, rfl, rfl, hn1, rfl, hsm, hcell⟩ := v_cv hm
    simp only [hy] at hq
    obtain ⟨hn, hq⟩ := b_and hq
    obtain ⟨g1, g2⟩ := b_and hq
    obtain ⟨g1, g3⟩ := b_and g1
    obtain ⟨w1, g2⟩ := b_and g2
    obtain ⟨w2, g2⟩ := b_and g2
    obtain ⟨w3, w4⟩ := b_and g2
    obtain ⟨d1, d2, d3⟩ := c_call_sp g1
    unfold c_cls at g3
    split at g3
    · rename_i q hqc
      have g3 : q.1 = (mn M1).cls := of_decide_eq_true g3
      have hG : GoodIn W0 (wsV (mn M).cls k (mn M1).cls (mn M1) (zcd M1 :: W0)) := fun w hw => by
        unfold wsV at hw
        rcases List.mem_append.mp hw with hw | hw
        · simp only [List.mem_cons, List.not_mem_nil, or_false] at hw
          rcases hw with rfl | rfl | rfl | rfl
          · exact W0_good (c_w_in w1 rfl)
          · exact W0_good (c_w_in w2 rfl)
          · exact W0_good (c_w_in w3 rfl)
          · exact W0_good (c_w_in w4 rfl)
        · exact good_cd hcw w hw
      have hrecv := va_recv hX.1 a.1 (ci := m_n ops 2) (q0 := x) hqc (zW_get hcell)
      rw [g3] at hrecv
      have hrun := va_runV (g := F0 m pc ls ((as1.reverse ++ Value.ref x :: rest).map (zt b base))) (As := as1.map (zt b base)) (rest := rest.map (zt b base)) (b := base + x) (H := H) (locs := locs) (cells := cells) (slots := slots) (R := R) (below := below) (meth := meth) (e := e) hS hM (cwV (m_n ops 1) hts hG rfl rfl rfl ⟨rfl, d1⟩ ⟨by show mf M1 + 1 ≤ _; omega, by show 8 + (mx M1 + 11) + mw M1 ≤ _; omega⟩) ⟨zPc_blind, hrecv, hpre⟩ rfl (by rw [List.length_map]; exact hn1) rl.2.1 (by show ((as1.reverse ++ Value.ref x :: rest).map (zt b base)) = _; rw [List.map_append, List.map_reverse]; rfl) (by show 2 * 0 + _ ≤ 8; rw [z_sum]; omega) hd hfit
      exact z_cont hrun a.2.1 (z_back (M1 := M1) hn rl hl hz hup kk)
    · cases g3
  case invokestatic k =>
    obtain rfl := lenOf (k := 3) hlen rfl (by decide)
    simp only [mexec] at hm
    simp only [] at hq
    obtain ⟨hn, hq⟩ := b_and hq
    split at hm
    · exact (i_cpy hm).elim
    · exact (i_mm hm).elim
    · exact (i_mm hm).elim
    · exact (i_ma hm).elim
    · obtain ⟨rfl, hn1, rfl, hsm⟩ := v_cs hm
      have hst : ((as.reverse ++ rest).map (zt b base)) = (as.map (zt b base)).reverse ++ rest.map (zt b base) := by rw [List.map_append, List.map_reverse]
      split at hq
      · exact absurd (show m_n ops 0 = 2 from ‹_›) (show ¬ (m_n ops 0 = 2) from ‹_›)
      · exact absurd (show m_n ops 0 = 3 from ‹_›) (show ¬ (m_n ops 0 = 3) from ‹_›)
      · exact absurd (show m_n ops 0 = 4 from ‹_›) (show ¬ (m_n ops 0 = 4) from ‹_›)
      · exact absurd (show m_n ops 0 = 5 from ‹_›) (show ¬ (m_n ops 0 = 5) from ‹_›)
      · simp only [hy] at hq
        obtain ⟨g1, hq⟩ := b_and hq
        obtain ⟨w1, hq⟩ := b_and hq
        obtain ⟨w2, w3⟩ := b_and hq
        obtain ⟨d1, d2, d3⟩ := c_call_sp g1
        have hG : GoodIn W0 (va_wsS (mn M).cls k (mn M1) (zcd M1 :: W0)) := fun w hw => by
          unfold va_wsS at hw
          rcases List.mem_append.mp hw with hw | hw
          · simp only [List.mem_cons, List.not_mem_nil, or_false] at hw
            rcases hw with rfl | rfl | rfl
            · exact W0_good (c_w_in w3 rfl)
            · exact W0_good (c_w_in w1 rfl)
            · exact W0_good (c_w_in w2 rfl)
          · exact good_cd hcw w hw
        have hrun := va_runS (g := F0 m pc ls ((as.reverse ++ rest).map (zt b base))) (As := as.map (zt b base)) (rest := rest.map (zt b base)) (H := H) (locs := locs) (cells := cells) (slots := slots) (R := R) (below := below) (meth := meth) (e := e) hS hM (va_cwS (m_n ops 2) hts hG rfl rfl rfl d1 ⟨by show mf M1 + 1 ≤ _; omega, by show 8 + (mx M1 + 11) + mw M1 ≤ _; omega⟩) ⟨zPc_blind, hpre⟩ rfl (by rw [List.length_map]; exact hn1) rl.2.1 hst (by show 2 * 0 + _ ≤ 8; rw [z_sum]; omega) hd hfit
        exact z_cont hrun a.2.1 (z_back (M1 := M1) hn rl hl hz hup kk)
      · simp only [hy] at hq
        obtain ⟨g1, hq⟩ := b_and hq
        obtain ⟨w1, hq⟩ := b_and hq
        obtain ⟨w2, w3⟩ := b_and hq
        obtain ⟨d1, d2, d3⟩ := c_call_sp g1
        unfold c_nst at w3
        split at w3
        · rename_i q hqn
          obtain ⟨e1, w3⟩ := b_and w3
          obtain ⟨e2, e3⟩ := b_and w3
          have e1 := of_decide_eq_true e1
          have e2 := of_decide_eq_true e2
          have e3 := of_decide_eq_true e3
          have hnest := hX.2.2.1 q (List.mem_of_getElem? hqn)
          rw [e1, e2, e3] at hnest
          have hrun := va_runSN (g := F0 m pc ls ((as.reverse ++ rest).map (zt b base))) (As := as.map (zt b base)) (rest := rest.map (zt b base)) (H := H) (locs := locs) (cells := cells) (slots := slots) (R := R) (below := below) (meth := meth) (e := e) (host := q.2.2.2) hS hM ⟨va_cnB (m_n ops 2) hts (good_cd hcw) rfl rfl rfl hnest (hts _ (c_w_in w2 rfl)) d1 ⟨by show mf M1 + 1 ≤ _; omega, by show 8 + (mx M1 + 11) + mw M1 ≤ _; omega⟩, hts _ (c_w_in w1 rfl), trivial⟩ ⟨zPc_blind, hpre⟩ rfl (by rw [List.length_map]; exact hn1) rl.2.1 hst (by show 2 * 0 + _ ≤ 8; rw [z_sum]; omega) hd hfit
          exact z_cont hrun a.2.1 (z_back (M1 := M1) hn rl hl hz hup kk)
        · cases w3
      · cases hq
  case invokespecial k =>
    obtain rfl := lenOf (k := 3) hlen rfl (by decide)
    simp only [mexec] at hm
    simp only [] at hq
    obtain ⟨hn, hq⟩ := b_and hq
    split at hm
    · exact (i_obj hm).elim
    · rename_i hk2
      obtain ⟨x, as1, rfl, rfl, hn1, rfl, hsm⟩ := v_ci hm
      have hst : ((as1.reverse ++ Value.ref x :: rest).map (zt b base)) = (as1.map (zt b base)).reverse ++ .ref (base + x) :: rest.map (zt b base) := by rw [List.map_append, List.map_reverse]; rfl
      split at hq
      · exact absurd ‹_› hk2
      · simp only [hy] at hq
        obtain ⟨g1, hq⟩ := b_and hq
        obtain ⟨g1, g2⟩ := b_and g1
        obtain ⟨g2, g3⟩ := b_and g2
        obtain ⟨w1, hq⟩ := b_and hq
        obtain ⟨w2, w3⟩ := b_and hq
        obtain ⟨d1, d2, d3⟩ := c_call_sp g1
        have g2 := of_decide_eq_true g2
        have g3 : mt M1 = none := of_decide_eq_true g3
        have hcd : zcd M1 :: W0 = Jvm.Cond.code (mn M1) (mb M1) (mx M1) none :: W0 := by unfold zcd; rw [g3]
        have hrun := va_runI (g := F0 m pc ls ((as1.reverse ++ Value.ref x :: rest).map (zt b base))) (As := as1.map (zt b base)) (rest := rest.map (zt b base)) (b := base + x) (H := H) (locs := locs) (cells := cells) (slots := slots) (R := R) (below := below) (meth := meth) (e := e) hS hM (cwI (m_n ops 2) hts (good_cd hcw) hcd rfl rfl (hts _ (c_w_in w2 rfl)) (hts _ (c_w_in w3 rfl)) (hts _ (c_w_in w1 rfl)) g2 d1 ⟨by show mf M1 + 1 ≤ _; omega, by show 8 + (mx M1 + 11) + mw M1 ≤ _; omega⟩) ⟨zPc_blind, hpre⟩ rfl (by rw [List.length_map]; exact hn1) rl.2.1 hst (by show 2 * 0 + _ ≤ 8; rw [z_sum]; omega) hd hfit
        exact z_cont hrun a.2.1 (z_back (M1 := M1) hn rl hl hz hup kk)
      · simp only [hy] at hq
        obtain ⟨g1, hq⟩ := b_and hq
        obtain ⟨g1, g2⟩ := b_and g1
        obtain ⟨g2, g3⟩ := b_and g2
        obtain ⟨w1, hq⟩ := b_and hq
        obtain ⟨w2, w3⟩ := b_and hq
        obtain ⟨d1, d2, d3⟩ := c_call_sp g1
        have g2 := of_decide_eq_true g2
        have g3 : mt M1 = none := of_decide_eq_true g3
        have hcd : zcd M1 :: W0 = Jvm.Cond.code (mn M1) (mb M1) (mx M1) none :: W0 := by unfold zcd; rw [g3]
        unfold c_nst at w3
        split at w3
        · rename_i q hqn
          obtain ⟨e1, w3⟩ := b_and w3
          obtain ⟨e2, e3⟩ := b_and w3
          have e1 := of_decide_eq_true e1
          have e2 := of_decide_eq_true e2
          have e3 := of_decide_eq_true e3
          have hnest := hX.2.2.1 q (List.mem_of_getElem? hqn)
          rw [e1, e2, e3] at hnest
          have hrun := va_runIN (g := F0 m pc ls ((as1.reverse ++ Value.ref x :: rest).map (zt b base))) (As := as1.map (zt b base)) (rest := rest.map (zt b base)) (b := base + x) (H := H) (locs := locs) (cells := cells) (slots := slots) (R := R) (below := below) (meth := meth) (e := e) (host := q.2.2.2) hS hM ⟨va_cnB (m_n ops 2) hts (good_cd hcw) hcd rfl rfl hnest (hts _ (c_w_in w2 rfl)) d1 ⟨by show mf M1 + 1 ≤ _; omega, by show 8 + (mx M1 + 11) + mw M1 ≤ _; omega⟩, g2, hts _ (c_w_in w1 rfl)⟩ ⟨zPc_blind, hpre⟩ rfl (by rw [List.length_map]; exact hn1) rl.2.1 hst (by show 2 * 0 + _ ≤ 8; rw [z_sum]; omega) hd hfit
          exact z_cont hrun a.2.1 (z_back (M1 := M1) hn rl hl hz hup kk)
        · cases w3
      · cases hq
  case iload => exact (i_il hm).elim
  case iload_n => exact (i_il hm).elim
  case lload => exact (i_jl hm).elim
  case lload_n => exact (i_jl hm).elim
  case aload => exact (i_al hm).elim
  case aload_n => exact (i_al hm).elim
  case istore => exact (i_is hm).elim
  case istore_n => exact (i_is hm).elim
  case lstore => exact (i_js hm).elim
  case lstore_n => exact (i_js hm).elim
  case astore => exact (i_as hm).elim
  case astore_n => exact (i_as hm).elim
  case iinc => exact (i_inc hm).elim
  case dup => exact (i_dup hm).elim
  case dup2 => exact (i_dup2 hm).elim
  case pop => exact (i_pop hm).elim
  case pop2 => exact (i_pop2 hm).elim
  case ladd => exact (i_jj hm).elim
  case lsub => exact (i_jj hm).elim
  case lmul => exact (i_jj hm).elim
  case ldiv => exact (i_jd hm).elim
  case lrem => exact (i_jd hm).elim
  case idiv => exact (i_id hm).elim
  case irem => exact (i_id hm).elim
  case ineg => exact (i_i1 hm).elim
  case i2l => exact (i_i1 hm).elim
  case i2b => exact (i_i1 hm).elim
  case i2s => exact (i_i1 hm).elim
  case lshl => exact (i_lshl hm).elim
  case lcmp => exact (i_lcmp hm).elim
  case ifCond => exact (i_if hm).elim
  case if_icmp => exact (i_icmp hm).elim
  case tableswitch => exact (i_sw hm).elim
  case iaload => exact (i_ald hm).elim
  case baload => exact (i_ald hm).elim
  case iastore => exact (i_ast hm).elim
  case bastore => exact (i_ast hm).elim
  case aaload => exact (i_aald hm).elim
  case aastore => exact (i_aast hm).elim
  case arraylength => exact (i_len hm).elim
  case anewarray => exact (i_newq hm).elim
  case multianewarray => exact (i_newm hm).elim
  case new => exact (i_new hm).elim
  case getfield => exact (i_get hm).elim
  case putfield => exact (i_put hm).elim
  case iadd => exact (i_ii hm).elim
  case isub => exact (i_ii hm).elim
  case imul => exact (i_ii hm).elim
  case iand => exact (i_ii hm).elim
  case ior => exact (i_ii hm).elim
  case ixor => exact (i_ii hm).elim
  case ishl => exact (i_ii hm).elim
  case ishr => exact (i_ii hm).elim
  case iushr => exact (i_ii hm).elim
  case iconst => exact (i_nx hm).elim
  case bipush => exact (i_nx hm).elim
  case sipush => exact (i_nx hm).elim
  case ldc => exact (i_nx hm).elim
  case ldc_w => exact (i_nx hm).elim
  case ldc2_w => exact (i_nx hm).elim
  case lconst => exact (i_nx hm).elim
  case goto off => cases hm
  case newarray t =>
    cases t
    case int => exact (i_newa hm).elim
    case boolean => exact (i_newa hm).elim
    all_goals exact nomatch (show (none : Option MO) = some _ from hm)
  case ireturn => exact (j_ret hm).elim
  case lreturn => exact (j_lret hm).elim
  case areturn => exact (j_aret hm).elim
  case return_ => exact (j_vret hm).elim
  all_goals exact nomatch (show (none : Option MO) = some _ from hm)
/-- a method's end -/
theorem st_fin {fl : Bool} {row : MR} {r : Option Value} (C : zC b base k0 cs D scr xs p R s m args meth c M) (hchk : m_chk m_tab M i row = true) (hm : mexec fl xs row.2.1 row.2.2.2 i L st h = some (.inr (.inr r))) (a : zA b base k0 z0 cs D s h H locs cells slots) : W p l e R s m args below meth c H locs cells slots (MQ below (zQc b base cs D r h) args s cells slots (fun q => base ≤ q)) (F0 m row.1 ls (st.map (zt b base))) := by
  obtain ⟨pc, ins, len, ops⟩ := row
  obtain ⟨hx, hb, hml, hr, hown, hts, hlocks, hini, hX, hf, hw, hsz, hbb, hs0⟩ := C
  obtain ⟨hd1, hq1⟩ := b_and hchk
  obtain ⟨hlen, hq⟩ := b_and hq1
  have hd : decode (mb M) pc = .ok (ins, len) := of_decide_eq_true hd1
  clear hchk hd1 hq1
  have fin : ∀ t : State, t.heap = H → zQc b base cs D r h args s (.returned (r.map (zt b base))) t := fun t ht => ⟨rfl, by rw [ht]; exact a.1, a.2.1.F ht⟩
  cases ins
  case ireturn =>
    obtain rfl := lenOf (k := 1) hlen rfl (by decide)
    have hm : o_ret (m_n ops 0) st = some (.inr (.inr r)) := hm
    have hq : (bif decide (m_n ops 0 = 1) then decide (mt M = some .boolean) else decide (mt M = some .int) && decide (m_n ops 0 = 0)) = true := hq
    generalize m_n ops 0 = z at *
    unfold o_ret at hm
    split at hm
    · rename_i v
      obtain ⟨g1, g2⟩ := b_if hm
      cases g2
      by_cases h1 : z = 1
      · subst h1
        have hq : mt M = some .boolean := of_decide_eq_true hq
        rw [hq] at hr
        exact W.zret hx hb hr (by rcases z_fit1 g1 with rfl | rfl <;> rfl) (fun t ht _ => fin t ht) a.2.1.2.2 hd hlocks
      · rw [decide_eq_false h1] at hq
        have hq : mt M = some .int := of_decide_eq_true (b_and hq).1
        rw [hq] at hr
        exact W.iret hx hb hr (fun t ht _ => fin t ht) a.2.1.2.2 hd hlocks
    · cases hm
  case lreturn =>
    obtain rfl := lenOf (k := 1) hlen rfl (by decide)
    have hm : o_lret st = some (.inr (.inr r)) := hm
    have hq : mt M = some .long := of_decide_eq_true hq
    rw [hq] at hr
    unfold o_lret at hm
    split at hm
    · cases hm
      exact W.lret hx hb hr (fun t ht _ => fin t ht) a.2.1.2.2 hd hlocks
    · cases hm
  case areturn =>
    obtain rfl := lenOf (k := 1) hlen rfl (by decide)
    have hm : o_aret st = some (.inr (.inr r)) := hm
    have hq : (match mt M with | some ty => m_rty ty | none => false) = true := hq
    unfold o_aret at hm
    split at hm
    · cases hm
      cases hmt : mt M with
      | none => rw [hmt] at hq; cases hq
      | some ty =>
        rw [hmt] at hq hr
        exact W.aret hx hb hr (by cases ty <;> first | exact Or.inl ⟨_, rfl⟩ | exact Or.inr ⟨_, rfl⟩ | cases hq) (Or.inr ⟨_, rfl⟩) (fun t ht _ => fin t ht) a.2.1.2.2 hd hlocks
    · cases hm
  case return_ =>
    obtain rfl := lenOf (k := 1) hlen rfl (by decide)
    have hm : o_vret st = some (.inr (.inr r)) := hm
    have hq : mt M = none := of_decide_eq_true hq
    rw [hq] at hr
    unfold o_vret at hm
    split at hm
    · cases hm
      exact W.vret hx hb hr (fun t ht _ => fin t ht) a.2.1.2.2 hd hlocks
    · cases hm
  case invokevirtual k => exact (k_cv hm).elim
  case invokestatic k =>
    simp only [mexec] at hm
    split at hm
    · exact (i_cpy hm).elim
    · exact (i_mm hm).elim
    · exact (i_mm hm).elim
    · exact (i_ma hm).elim
    · exact (k_cs hm).elim
  case invokespecial k =>
    simp only [mexec] at hm
    split at hm
    · exact (i_obj hm).elim
    · exact (k_ci hm).elim
  case iload => exact (i_il hm).elim
  case iload_n => exact (i_il hm).elim
  case lload => exact (i_jl hm).elim
  case lload_n => exact (i_jl hm).elim
  case aload => exact (i_al hm).elim
  case aload_n => exact (i_al hm).elim
  case istore => exact (i_is hm).elim
  case istore_n => exact (i_is hm).elim
  case lstore => exact (i_js hm).elim
  case lstore_n => exact (i_js hm).elim
  case astore => exact (i_as hm).elim
  case astore_n => exact (i_as hm).elim
  case iinc => exact (i_inc hm).elim
  case dup => exact (i_dup hm).elim
  case dup2 => exact (i_dup2 hm).elim
  case pop => exact (i_pop hm).elim
  case pop2 => exact (i_pop2 hm).elim
  case ladd => exact (i_jj hm).elim
  case lsub => exact (i_jj hm).elim
  case lmul => exact (i_jj hm).elim
  case ldiv => exact (i_jd hm).elim
  case lrem => exact (i_jd hm).elim
  case idiv => exact (i_id hm).elim
  case irem => exact (i_id hm).elim
  case ineg => exact (i_i1 hm).elim
  case i2l => exact (i_i1 hm).elim
  case i2b => exact (i_i1 hm).elim
  case i2s => exact (i_i1 hm).elim
  case lshl => exact (i_lshl hm).elim
  case lcmp => exact (i_lcmp hm).elim
  case ifCond => exact (i_if hm).elim
  case if_icmp => exact (i_icmp hm).elim
  case tableswitch => exact (i_sw hm).elim
  case iaload => exact (i_ald hm).elim
  case baload => exact (i_ald hm).elim
  case iastore => exact (i_ast hm).elim
  case bastore => exact (i_ast hm).elim
  case aaload => exact (i_aald hm).elim
  case aastore => exact (i_aast hm).elim
  case arraylength => exact (i_len hm).elim
  case anewarray => exact (i_newq hm).elim
  case multianewarray => exact (i_newm hm).elim
  case new => exact (i_new hm).elim
  case getfield => exact (i_get hm).elim
  case putfield => exact (i_put hm).elim
  case iadd => exact (i_ii hm).elim
  case isub => exact (i_ii hm).elim
  case imul => exact (i_ii hm).elim
  case iand => exact (i_ii hm).elim
  case ior => exact (i_ii hm).elim
  case ixor => exact (i_ii hm).elim
  case ishl => exact (i_ii hm).elim
  case ishr => exact (i_ii hm).elim
  case iushr => exact (i_ii hm).elim
  case iconst => exact (i_nx hm).elim
  case bipush => exact (i_nx hm).elim
  case sipush => exact (i_nx hm).elim
  case ldc => exact (i_nx hm).elim
  case ldc_w => exact (i_nx hm).elim
  case ldc2_w => exact (i_nx hm).elim
  case lconst => exact (i_nx hm).elim
  case goto off => cases hm
  case newarray t =>
    cases t
    case int => exact (i_newa hm).elim
    case boolean => exact (i_newa hm).elim
    all_goals exact nomatch (show (none : Option MO) = some _ from hm)
  all_goals exact nomatch (show (none : Option MO) = some _ from hm)
end STP
