/-! the tables are all right; the law from its entry, out of a run of the small machine -/
theorem c_all_sp {M : MM} (h : c_all m_tab M = true) {k : Nat} (hc : flk k lw_tbl = some (zcd M)) : (∀ (i : Nat) (row : MR), (mc M)[i]? = some row → m_chk m_tab M i row = true) ∧ plainName (mn M).cls = true ∧ c_0 M = true ∧ zcd M ∈ W0 := by
  unfold c_all at h
  obtain ⟨h1, h2⟩ := b_and h
  obtain ⟨h2, h3⟩ := b_and h2
  exact ⟨fun i row hr => List.all_eq_true.mp h1 (row, i) (List.mem_zipIdx_iff_getElem?.mpr hr), of_decide_eq_true h2, h3, W0_mem (flk_in hc) rfl⟩
theorem c_sg_sp {M : MM} {k n : Nat} (h : c_sg m_tab M k n = true) : ∀ (i : Nat) (row : MR), k ≤ i → i < k + n → (mc M)[i]? = some row → m_chk m_tab M i row = true := by
  intro i row h1 h2 hr
  refine List.all_eq_true.mp h (row, i) (List.mem_of_getElem? (i := i - k) ?_)
  rw [List.getElem?_zipIdx, List.getElem?_take, if_pos (by omega), List.getElem?_drop, show k + (i - k) = i by omega, hr]
  rfl
def okP (M : MM) : Prop := (∀ (i : Nat) (row : MR), (mc M)[i]? = some row → m_chk m_tab M i row = true) ∧ plainName (mn M).cls = true ∧ c_0 M = true ∧ zcd M ∈ W0
def m_g0 : List MM := [m_X0_init, m_X0_take, m_X0_takeCrew, m_X0_takeRates, m_X0_takeRudder, m_X1_init, m_X1_append, m_X2_init, m_X2_append, m_X2_agreeWith, m_X3_init, m_X3_begin, m_X3_findingOf, m_X3_hasRange, m_X3_keep, m_X4_init, m_X4_crewFault, m_X4_fitsCrew, m_X4_signFault, m_X5_init, m_X5_row, m_X5_takeEvents, m_X5_takeRowers, m_X5_pullAll]
set_option maxRecDepth 100000 in
theorem ok_g0 : ∀ M ∈ m_g0, okP M := List.forall_mem_cons.mpr ⟨c_all_sp ca_X0_init cw_X0_init, List.forall_mem_cons.mpr ⟨c_all_sp ca_X0_take cw_X0_take, List.forall_mem_cons.mpr ⟨c_all_sp ca_X0_takeCrew cw_X0_takeCrew, List.forall_mem_cons.mpr ⟨c_all_sp ca_X0_takeRates cw_X0_takeRates, List.forall_mem_cons.mpr ⟨c_all_sp ca_X0_takeRudder cw_X0_takeRudder, List.forall_mem_cons.mpr ⟨c_all_sp ca_X1_init cw_X1_init, List.forall_mem_cons.mpr ⟨c_all_sp ca_X1_append cw_X1_append, List.forall_mem_cons.mpr ⟨c_all_sp ca_X2_init cw_X2_init, List.forall_mem_cons.mpr ⟨c_all_sp ca_X2_append cw_X2_append, List.forall_mem_cons.mpr ⟨c_all_sp ca_X2_agreeWith cw_X2_agreeWith, List.forall_mem_cons.mpr ⟨c_all_sp ca_X3_init cw_X3_init, List.forall_mem_cons.mpr ⟨c_all_sp ca_X3_begin cw_X3_begin, List.forall_mem_cons.mpr ⟨c_all_sp ca_X3_findingOf cw_X3_findingOf, List.forall_mem_cons.mpr ⟨c_all_sp ca_X3_hasRange cw_X3_hasRange, List.forall_mem_cons.mpr ⟨c_all_sp ca_X3_keep cw_X3_keep, List.forall_mem_cons.mpr ⟨c_all_sp ca_X4_init cw_X4_init, List.forall_mem_cons.mpr ⟨c_all_sp ca_X4_crewFault cw_X4_crewFault, List.forall_mem_cons.mpr ⟨c_all_sp ca_X4_fitsCrew cw_X4_fitsCrew, List.forall_mem_cons.mpr ⟨c_all_sp ca_X4_signFault cw_X4_signFault, List.forall_mem_cons.mpr ⟨c_all_sp ca_X5_init cw_X5_init, List.forall_mem_cons.mpr ⟨c_all_sp ca_X5_row cw_X5_row, List.forall_mem_cons.mpr ⟨c_all_sp ca_X5_takeEvents cw_X5_takeEvents, List.forall_mem_cons.mpr ⟨c_all_sp ca_X5_takeRowers cw_X5_takeRowers, List.forall_mem_cons.mpr ⟨c_all_sp ca_X5_pullAll cw_X5_pullAll, fun _ h => absurd h List.not_mem_nil⟩⟩⟩⟩⟩⟩⟩⟩⟩⟩⟩⟩⟩⟩⟩⟩⟩⟩⟩⟩⟩⟩⟩⟩
def m_g1 : List MM := [m_X5_placeBehind, m_X5_metresIn, m_X5_minutesAground, m_X5_firstAground, m_X5_lastStray, m_X5_farthestStray, m_X6_init, m_X6_type, m_X6_wipe, m_X6_undo, m_X6_fault, m_X6_rower, m_X6_call, m_X6_river, m_X6_tellStream, m_X6_tellHome, m_X6_event, m_X6_back, m_X6_read, m_X6_at, m_X6_pulls, m_X6_done, m_X6_there, m_X6_grounded]
set_option maxRecDepth 100000 in
theorem ok_g1 : ∀ M ∈ m_g1, okP M := List.forall_mem_cons.mpr ⟨c_all_sp ca_X5_placeBehind cw_X5_placeBehind, List.forall_mem_cons.mpr ⟨c_all_sp ca_X5_metresIn cw_X5_metresIn, List.forall_mem_cons.mpr ⟨c_all_sp ca_X5_minutesAground cw_X5_minutesAground, List.forall_mem_cons.mpr ⟨c_all_sp ca_X5_firstAground cw_X5_firstAground, List.forall_mem_cons.mpr ⟨c_all_sp ca_X5_lastStray cw_X5_lastStray, List.forall_mem_cons.mpr ⟨c_all_sp ca_X5_farthestStray cw_X5_farthestStray, List.forall_mem_cons.mpr ⟨c_all_sp ca_X6_init cw_X6_init, List.forall_mem_cons.mpr ⟨c_all_sp ca_X6_type cw_X6_type, List.forall_mem_cons.mpr ⟨c_all_sp ca_X6_wipe cw_X6_wipe, List.forall_mem_cons.mpr ⟨c_all_sp ca_X6_undo cw_X6_undo, List.forall_mem_cons.mpr ⟨c_all_sp ca_X6_fault cw_X6_fault, List.forall_mem_cons.mpr ⟨c_all_sp ca_X6_rower cw_X6_rower, List.forall_mem_cons.mpr ⟨c_all_sp ca_X6_call cw_X6_call, List.forall_mem_cons.mpr ⟨c_all_sp ca_X6_river cw_X6_river, List.forall_mem_cons.mpr ⟨c_all_sp ca_X6_tellStream cw_X6_tellStream, List.forall_mem_cons.mpr ⟨c_all_sp ca_X6_tellHome cw_X6_tellHome, List.forall_mem_cons.mpr ⟨c_all_sp ca_X6_event cw_X6_event, List.forall_mem_cons.mpr ⟨c_all_sp ca_X6_back cw_X6_back, List.forall_mem_cons.mpr ⟨c_all_sp ca_X6_read cw_X6_read, List.forall_mem_cons.mpr ⟨c_all_sp ca_X6_at cw_X6_at, List.forall_mem_cons.mpr ⟨c_all_sp ca_X6_pulls cw_X6_pulls, List.forall_mem_cons.mpr ⟨c_all_sp ca_X6_done cw_X6_done, List.forall_mem_cons.mpr ⟨c_all_sp ca_X6_there cw_X6_there, List.forall_mem_cons.mpr ⟨c_all_sp ca_X6_grounded cw_X6_grounded, fun _ h => absurd h List.not_mem_nil⟩⟩⟩⟩⟩⟩⟩⟩⟩⟩⟩⟩⟩⟩⟩⟩⟩⟩⟩⟩⟩⟩⟩⟩
def m_g2 : List MM := [m_X6_stray, m_X6_best, m_X6_idle, m_X6_swap, m_X6_metresSwapped, m_X6_steer, m_X6_stroke, m_X6_spare, m_X6_sparedEvents, m_X6_ithBit, m_X6_seen, m_X6_forget, m_X6_never, m_X6_was, m_X6_possiblePowers, m_X6_possibleSorts, m_X6_ask, m_X6_mostAtOnePlace, m_X6_chance, m_X6_weightOf, m_X6_isAgroundBy, m_X6_years, m_X6_sheet, m_X6_lose]
set_option maxRecDepth 100000 in
theorem ok_g2 : ∀ M ∈ m_g2, okP M := List.forall_mem_cons.mpr ⟨c_all_sp ca_X6_stray cw_X6_stray, List.forall_mem_cons.mpr ⟨c_all_sp ca_X6_best cw_X6_best, List.forall_mem_cons.mpr ⟨c_all_sp ca_X6_idle cw_X6_idle, List.forall_mem_cons.mpr ⟨c_all_sp ca_X6_swap cw_X6_swap, List.forall_mem_cons.mpr ⟨c_all_sp ca_X6_metresSwapped cw_X6_metresSwapped, List.forall_mem_cons.mpr ⟨c_all_sp ca_X6_steer cw_X6_steer, List.forall_mem_cons.mpr ⟨c_all_sp ca_X6_stroke cw_X6_stroke, List.forall_mem_cons.mpr ⟨c_all_sp ca_X6_spare cw_X6_spare, List.forall_mem_cons.mpr ⟨c_all_sp ca_X6_sparedEvents cw_X6_sparedEvents, List.forall_mem_cons.mpr ⟨c_all_sp ca_X6_ithBit cw_X6_ithBit, List.forall_mem_cons.mpr ⟨c_all_sp ca_X6_seen cw_X6_seen, List.forall_mem_cons.mpr ⟨c_all_sp ca_X6_forget cw_X6_forget, List.forall_mem_cons.mpr ⟨c_all_sp ca_X6_never cw_X6_never, List.forall_mem_cons.mpr ⟨c_all_sp ca_X6_was cw_X6_was, List.forall_mem_cons.mpr ⟨c_all_sp ca_X6_possiblePowers cw_X6_possiblePowers, List.forall_mem_cons.mpr ⟨c_all_sp ca_X6_possibleSorts cw_X6_possibleSorts, List.forall_mem_cons.mpr ⟨c_all_sp ca_X6_ask cw_X6_ask, List.forall_mem_cons.mpr ⟨c_all_sp ca_X6_mostAtOnePlace cw_X6_mostAtOnePlace, List.forall_mem_cons.mpr ⟨c_all_sp ca_X6_chance cw_X6_chance, List.forall_mem_cons.mpr ⟨c_all_sp ca_X6_weightOf cw_X6_weightOf, List.forall_mem_cons.mpr ⟨c_all_sp ca_X6_isAgroundBy cw_X6_isAgroundBy, List.forall_mem_cons.mpr ⟨c_all_sp ca_X6_years cw_X6_years, List.forall_mem_cons.mpr ⟨c_all_sp ca_X6_sheet cw_X6_sheet, List.forall_mem_cons.mpr ⟨c_all_sp ca_X6_lose cw_X6_lose, fun _ h => absurd h List.not_mem_nil⟩⟩⟩⟩⟩⟩⟩⟩⟩⟩⟩⟩⟩⟩⟩⟩⟩⟩⟩⟩⟩⟩⟩⟩
def m_g3 : List MM := [m_X6_put, m_X6_get, m_X6_copy, m_X6_write, m_X6_count, m_X6_digest, m_X6_addMinutes, m_X6_addRower, m_X6_addPlans, m_X6_addWhole, m_X6_isBelow, m_X6_hasBit, m_X6_isRower, m_X6_find, m_X6_markChanged, m_X6_retell, m_X6_toldTrip, m_X6_rowOther, m_X6_firstAgroundWith, m_X7_init, m_X7_in, m_X7_isIn, m_X7_no, m_X7_lowest]
set_option maxRecDepth 100000 in
theorem ok_g3 : ∀ M ∈ m_g3, okP M := List.forall_mem_cons.mpr ⟨c_all_sp ca_X6_put cw_X6_put, List.forall_mem_cons.mpr ⟨c_all_sp ca_X6_get cw_X6_get, List.forall_mem_cons.mpr ⟨c_all_sp ca_X6_copy cw_X6_copy, List.forall_mem_cons.mpr ⟨c_all_sp ca_X6_write cw_X6_write, List.forall_mem_cons.mpr ⟨c_all_sp ca_X6_count cw_X6_count, List.forall_mem_cons.mpr ⟨c_all_sp ca_X6_digest cw_X6_digest, List.forall_mem_cons.mpr ⟨c_all_sp ca_X6_addMinutes cw_X6_addMinutes, List.forall_mem_cons.mpr ⟨c_all_sp ca_X6_addRower cw_X6_addRower, List.forall_mem_cons.mpr ⟨c_all_sp ca_X6_addPlans cw_X6_addPlans, List.forall_mem_cons.mpr ⟨c_all_sp ca_X6_addWhole cw_X6_addWhole, List.forall_mem_cons.mpr ⟨c_all_sp ca_X6_isBelow cw_X6_isBelow, List.forall_mem_cons.mpr ⟨c_all_sp ca_X6_hasBit cw_X6_hasBit, List.forall_mem_cons.mpr ⟨c_all_sp ca_X6_isRower cw_X6_isRower, List.forall_mem_cons.mpr ⟨c_all_sp ca_X6_find cw_X6_find, List.forall_mem_cons.mpr ⟨c_all_sp ca_X6_markChanged cw_X6_markChanged, List.forall_mem_cons.mpr ⟨c_all_sp ca_X6_retell cw_X6_retell, List.forall_mem_cons.mpr ⟨c_all_sp ca_X6_toldTrip cw_X6_toldTrip, List.forall_mem_cons.mpr ⟨c_all_sp ca_X6_rowOther cw_X6_rowOther, List.forall_mem_cons.mpr ⟨c_all_sp ca_X6_firstAgroundWith cw_X6_firstAgroundWith, List.forall_mem_cons.mpr ⟨c_all_sp ca_X7_init cw_X7_init, List.forall_mem_cons.mpr ⟨c_all_sp ca_X7_in cw_X7_in, List.forall_mem_cons.mpr ⟨c_all_sp ca_X7_isIn cw_X7_isIn, List.forall_mem_cons.mpr ⟨c_all_sp ca_X7_no cw_X7_no, List.forall_mem_cons.mpr ⟨c_all_sp ca_X7_lowest cw_X7_lowest, fun _ h => absurd h List.not_mem_nil⟩⟩⟩⟩⟩⟩⟩⟩⟩⟩⟩⟩⟩⟩⟩⟩⟩⟩⟩⟩⟩⟩⟩⟩
def m_g4 : List MM := [m_X7_isText, m_X7_isMinute, m_X7_isTwo, m_X7_isThree, m_X7_isEight, m_X7_type, m_X7_wipe, m_X7_undo, m_X7_byteAt, m_X7_readsRower, m_X7_readsCrew, m_X7_readsRates, m_X7_rudderBy, m_X7_readsRudder, m_X7_faultOf, m_X7_reads, m_X7_fault, m_X7_isRower, m_X7_rowerOf, m_X7_rower, m_X7_callOf, m_X7_call, m_X7_river, m_X7_event]
set_option maxRecDepth 100000 in
theorem ok_g4 : ∀ M ∈ m_g4, okP M := List.forall_mem_cons.mpr ⟨c_all_sp ca_X7_isText cw_X7_isText, List.forall_mem_cons.mpr ⟨c_all_sp ca_X7_isMinute cw_X7_isMinute, List.forall_mem_cons.mpr ⟨c_all_sp ca_X7_isTwo cw_X7_isTwo, List.forall_mem_cons.mpr ⟨c_all_sp ca_X7_isThree cw_X7_isThree, List.forall_mem_cons.mpr ⟨c_all_sp ca_X7_isEight cw_X7_isEight, List.forall_mem_cons.mpr ⟨c_all_sp ca_X7_type cw_X7_type, List.forall_mem_cons.mpr ⟨c_all_sp ca_X7_wipe cw_X7_wipe, List.forall_mem_cons.mpr ⟨c_all_sp ca_X7_undo cw_X7_undo, List.forall_mem_cons.mpr ⟨c_all_sp ca_X7_byteAt cw_X7_byteAt, List.forall_mem_cons.mpr ⟨c_all_sp ca_X7_readsRower cw_X7_readsRower, List.forall_mem_cons.mpr ⟨c_all_sp ca_X7_readsCrew cw_X7_readsCrew, List.forall_mem_cons.mpr ⟨c_all_sp ca_X7_readsRates cw_X7_readsRates, List.forall_mem_cons.mpr ⟨c_all_sp ca_X7_rudderBy cw_X7_rudderBy, List.forall_mem_cons.mpr ⟨c_all_sp ca_X7_readsRudder cw_X7_readsRudder, List.forall_mem_cons.mpr ⟨c_all_sp ca_X7_faultOf cw_X7_faultOf, List.forall_mem_cons.mpr ⟨c_all_sp ca_X7_reads cw_X7_reads, List.forall_mem_cons.mpr ⟨c_all_sp ca_X7_fault cw_X7_fault, List.forall_mem_cons.mpr ⟨c_all_sp ca_X7_isRower cw_X7_isRower, List.forall_mem_cons.mpr ⟨c_all_sp ca_X7_rowerOf cw_X7_rowerOf, List.forall_mem_cons.mpr ⟨c_all_sp ca_X7_rower cw_X7_rower, List.forall_mem_cons.mpr ⟨c_all_sp ca_X7_callOf cw_X7_callOf, List.forall_mem_cons.mpr ⟨c_all_sp ca_X7_call cw_X7_call, List.forall_mem_cons.mpr ⟨c_all_sp ca_X7_river cw_X7_river, List.forall_mem_cons.mpr ⟨c_all_sp ca_X7_event cw_X7_event, fun _ h => absurd h List.not_mem_nil⟩⟩⟩⟩⟩⟩⟩⟩⟩⟩⟩⟩⟩⟩⟩⟩⟩⟩⟩⟩⟩⟩⟩⟩
def m_g5 : List MM := [m_X7_back, m_X7_read, m_X7_asTold, m_X7_befalls, m_X7_pullsOne, m_X7_goes, m_X7_goesBy, m_X7_runs, m_X7_runsTold, m_X7_atOf, m_X7_at, m_X7_pullsOf, m_X7_pulls, m_X7_doneOf, m_X7_done, m_X7_thereOf, m_X7_there, m_X7_groundedOf, m_X7_grounded, m_X7_strayNow, m_X7_strayOf, m_X7_stray, m_X7_bestOf, m_X7_best]
set_option maxRecDepth 100000 in
theorem ok_g5 : ∀ M ∈ m_g5, okP M := List.forall_mem_cons.mpr ⟨c_all_sp ca_X7_back cw_X7_back, List.forall_mem_cons.mpr ⟨c_all_sp ca_X7_read cw_X7_read, List.forall_mem_cons.mpr ⟨c_all_sp ca_X7_asTold cw_X7_asTold, List.forall_mem_cons.mpr ⟨c_all_sp ca_X7_befalls cw_X7_befalls, List.forall_mem_cons.mpr ⟨c_all_sp ca_X7_pullsOne cw_X7_pullsOne, List.forall_mem_cons.mpr ⟨c_all_sp ca_X7_goes cw_X7_goes, List.forall_mem_cons.mpr ⟨c_all_sp ca_X7_goesBy cw_X7_goesBy, List.forall_mem_cons.mpr ⟨c_all_sp ca_X7_runs cw_X7_runs, List.forall_mem_cons.mpr ⟨c_all_sp ca_X7_runsTold cw_X7_runsTold, List.forall_mem_cons.mpr ⟨c_all_sp ca_X7_atOf cw_X7_atOf, List.forall_mem_cons.mpr ⟨c_all_sp ca_X7_at cw_X7_at, List.forall_mem_cons.mpr ⟨c_all_sp ca_X7_pullsOf cw_X7_pullsOf, List.forall_mem_cons.mpr ⟨c_all_sp ca_X7_pulls cw_X7_pulls, List.forall_mem_cons.mpr ⟨c_all_sp ca_X7_doneOf cw_X7_doneOf, List.forall_mem_cons.mpr ⟨c_all_sp ca_X7_done cw_X7_done, List.forall_mem_cons.mpr ⟨c_all_sp ca_X7_thereOf cw_X7_thereOf, List.forall_mem_cons.mpr ⟨c_all_sp ca_X7_there cw_X7_there, List.forall_mem_cons.mpr ⟨c_all_sp ca_X7_groundedOf cw_X7_groundedOf, List.forall_mem_cons.mpr ⟨c_all_sp ca_X7_grounded cw_X7_grounded, List.forall_mem_cons.mpr ⟨c_all_sp ca_X7_strayNow cw_X7_strayNow, List.forall_mem_cons.mpr ⟨c_all_sp ca_X7_strayOf cw_X7_strayOf, List.forall_mem_cons.mpr ⟨c_all_sp ca_X7_stray cw_X7_stray, List.forall_mem_cons.mpr ⟨c_all_sp ca_X7_bestOf cw_X7_bestOf, List.forall_mem_cons.mpr ⟨c_all_sp ca_X7_best cw_X7_best, fun _ h => absurd h List.not_mem_nil⟩⟩⟩⟩⟩⟩⟩⟩⟩⟩⟩⟩⟩⟩⟩⟩⟩⟩⟩⟩⟩⟩⟩⟩
def m_g6 : List MM := [m_X7_idleOf, m_X7_idle, m_X7_swapOf, m_X7_swap, m_X7_steerOf, m_X7_steer, m_X7_strokeOf, m_X7_stroke, m_X7_isSpared, m_X7_spareBy, m_X7_ofRow, m_X7_spare, m_X7_seen, m_X7_forget, m_X7_isSeen, m_X7_neverNow, m_X7_never, m_X7_powersBy, m_X7_sortsBy, m_X7_was, m_X7_askOf, m_X7_ask, m_X7_chanceOf, m_X7_chance]
set_option maxRecDepth 100000 in
theorem ok_g6 : ∀ M ∈ m_g6, okP M := List.forall_mem_cons.mpr ⟨c_all_sp ca_X7_idleOf cw_X7_idleOf, List.forall_mem_cons.mpr ⟨c_all_sp ca_X7_idle cw_X7_idle, List.forall_mem_cons.mpr ⟨c_all_sp ca_X7_swapOf cw_X7_swapOf, List.forall_mem_cons.mpr ⟨c_all_sp ca_X7_swap cw_X7_swap, List.forall_mem_cons.mpr ⟨c_all_sp ca_X7_steerOf cw_X7_steerOf, List.forall_mem_cons.mpr ⟨c_all_sp ca_X7_steer cw_X7_steer, List.forall_mem_cons.mpr ⟨c_all_sp ca_X7_strokeOf cw_X7_strokeOf, List.forall_mem_cons.mpr ⟨c_all_sp ca_X7_stroke cw_X7_stroke, List.forall_mem_cons.mpr ⟨c_all_sp ca_X7_isSpared cw_X7_isSpared, List.forall_mem_cons.mpr ⟨c_all_sp ca_X7_spareBy cw_X7_spareBy, List.forall_mem_cons.mpr ⟨c_all_sp ca_X7_ofRow cw_X7_ofRow, List.forall_mem_cons.mpr ⟨c_all_sp ca_X7_spare cw_X7_spare, List.forall_mem_cons.mpr ⟨c_all_sp ca_X7_seen cw_X7_seen, List.forall_mem_cons.mpr ⟨c_all_sp ca_X7_forget cw_X7_forget, List.forall_mem_cons.mpr ⟨c_all_sp ca_X7_isSeen cw_X7_isSeen, List.forall_mem_cons.mpr ⟨c_all_sp ca_X7_neverNow cw_X7_neverNow, List.forall_mem_cons.mpr ⟨c_all_sp ca_X7_never cw_X7_never, List.forall_mem_cons.mpr ⟨c_all_sp ca_X7_powersBy cw_X7_powersBy, List.forall_mem_cons.mpr ⟨c_all_sp ca_X7_sortsBy cw_X7_sortsBy, List.forall_mem_cons.mpr ⟨c_all_sp ca_X7_was cw_X7_was, List.forall_mem_cons.mpr ⟨c_all_sp ca_X7_askOf cw_X7_askOf, List.forall_mem_cons.mpr ⟨c_all_sp ca_X7_ask cw_X7_ask, List.forall_mem_cons.mpr ⟨c_all_sp ca_X7_chanceOf cw_X7_chanceOf, List.forall_mem_cons.mpr ⟨c_all_sp ca_X7_chance cw_X7_chance, fun _ h => absurd h List.not_mem_nil⟩⟩⟩⟩⟩⟩⟩⟩⟩⟩⟩⟩⟩⟩⟩⟩⟩⟩⟩⟩⟩⟩⟩⟩
def m_g7 : List MM := [m_X7_yearsOf, m_X7_years, m_X7_meets, m_X7_isSheet, m_X7_sheet, m_X7_lose, m_X7_lacks, m_X7_keep, m_X7_put, m_X7_get, m_X7_copy, m_X7_write, m_X7_tellOf, m_X7_count, m_X7_minuteDigest, m_X7_rowerDigest, m_X7_planDigest, m_X7_digest, m_J6_bitCount_0f7a4, m_J7_fill_53178]
set_option maxRecDepth 100000 in
theorem ok_g7 : ∀ M ∈ m_g7, okP M := List.forall_mem_cons.mpr ⟨c_all_sp ca_X7_yearsOf cw_X7_yearsOf, List.forall_mem_cons.mpr ⟨c_all_sp ca_X7_years cw_X7_years, List.forall_mem_cons.mpr ⟨c_all_sp ca_X7_meets cw_X7_meets, List.forall_mem_cons.mpr ⟨c_all_sp ca_X7_isSheet cw_X7_isSheet, List.forall_mem_cons.mpr ⟨c_all_sp ca_X7_sheet cw_X7_sheet, List.forall_mem_cons.mpr ⟨c_all_sp ca_X7_lose cw_X7_lose, List.forall_mem_cons.mpr ⟨c_all_sp ca_X7_lacks cw_X7_lacks, List.forall_mem_cons.mpr ⟨c_all_sp ca_X7_keep cw_X7_keep, List.forall_mem_cons.mpr ⟨c_all_sp ca_X7_put cw_X7_put, List.forall_mem_cons.mpr ⟨c_all_sp ca_X7_get cw_X7_get, List.forall_mem_cons.mpr ⟨c_all_sp ca_X7_copy cw_X7_copy, List.forall_mem_cons.mpr ⟨c_all_sp ca_X7_write cw_X7_write, List.forall_mem_cons.mpr ⟨c_all_sp ca_X7_tellOf cw_X7_tellOf, List.forall_mem_cons.mpr ⟨c_all_sp ca_X7_count cw_X7_count, List.forall_mem_cons.mpr ⟨c_all_sp ca_X7_minuteDigest cw_X7_minuteDigest, List.forall_mem_cons.mpr ⟨c_all_sp ca_X7_rowerDigest cw_X7_rowerDigest, List.forall_mem_cons.mpr ⟨c_all_sp ca_X7_planDigest cw_X7_planDigest, List.forall_mem_cons.mpr ⟨c_all_sp ca_X7_digest cw_X7_digest, List.forall_mem_cons.mpr ⟨c_all_sp ca_J6_bitCount_0f7a4 cw_J6_bitCount_0f7a4, List.forall_mem_cons.mpr ⟨c_all_sp ca_J7_fill_53178 cw_J7_fill_53178, fun _ h => absurd h List.not_mem_nil⟩⟩⟩⟩⟩⟩⟩⟩⟩⟩⟩⟩⟩⟩⟩⟩⟩⟩⟩⟩
set_option maxRecDepth 100000 in
theorem m_tab_g : m_tab = m_g0 ++ (m_g1 ++ (m_g2 ++ (m_g3 ++ (m_g4 ++ (m_g5 ++ (m_g6 ++ (m_g7))))))) := rfl
theorem okT_all : okT := fun y M1 hy => by
  have hm := List.mem_of_getElem? hy
  rw [m_tab_g] at hm
  exact (List.forall_mem_append.mpr ⟨ok_g0, List.forall_mem_append.mpr ⟨ok_g1, List.forall_mem_append.mpr ⟨ok_g2, List.forall_mem_append.mpr ⟨ok_g3, List.forall_mem_append.mpr ⟨ok_g4, List.forall_mem_append.mpr ⟨ok_g5, List.forall_mem_append.mpr ⟨ok_g6, ok_g7⟩⟩⟩⟩⟩⟩⟩) M1 hm
set_option maxRecDepth 100000 in
theorem law_len : (mc m_L_law).length = 875 := by decide +kernel
theorem okL : ∀ (i : Nat) (row : MR), (mc m_L_law)[i]? = some row → m_chk m_tab m_L_law i row = true := by
  intro i row hr
  have hl := (List.getElem?_eq_some_iff.mp hr).1
  rw [law_len] at hl
  by_cases g0 : i < 60
  · exact c_sg_sp cl_0 i row (by omega) (by omega) hr
  by_cases g60 : i < 120
  · exact c_sg_sp cl_60 i row (by omega) (by omega) hr
  by_cases g120 : i < 180
  · exact c_sg_sp cl_120 i row (by omega) (by omega) hr
  by_cases g180 : i < 240
  · exact c_sg_sp cl_180 i row (by omega) (by omega) hr
  by_cases g240 : i < 300
  · exact c_sg_sp cl_240 i row (by omega) (by omega) hr
  by_cases g300 : i < 360
  · exact c_sg_sp cl_300 i row (by omega) (by omega) hr
  by_cases g360 : i < 420
  · exact c_sg_sp cl_360 i row (by omega) (by omega) hr
  by_cases g420 : i < 480
  · exact c_sg_sp cl_420 i row (by omega) (by omega) hr
  by_cases g480 : i < 540
  · exact c_sg_sp cl_480 i row (by omega) (by omega) hr
  by_cases g540 : i < 600
  · exact c_sg_sp cl_540 i row (by omega) (by omega) hr
  by_cases g600 : i < 660
  · exact c_sg_sp cl_600 i row (by omega) (by omega) hr
  by_cases g660 : i < 720
  · exact c_sg_sp cl_660 i row (by omega) (by omega) hr
  by_cases g720 : i < 780
  · exact c_sg_sp cl_720 i row (by omega) (by omega) hr
  by_cases g780 : i < 840
  · exact c_sg_sp cl_780 i row (by omega) (by omega) hr
  exact c_sg_sp cl_840 i row (by omega) (by omega) hr
/-! THE CLAIM OUT OF ONE WALK OF THE LAW'S BODY. Your part is whole_start (and what it stands on); all else here is the same for every law, but numbers. -/
def R_law : String := "RowingEightLaw"
def lw_P (b : Addr) (xs : List Int32) (args : Array Value) (s : State) : Prop := args = #[.ref b] ∧ s.IntsAt b xs ∧ xs.length ≤ 3072 ∧ (Jvm.Cond.and given_1 narrow_1).before args s = true
def lw_Q (_ : Array Value) (s : State) (o : Outcome) (t : State) : Prop := o = .returned (some (.int 1)) ∧ Framed s o t [] 600000 7302250
def lw_Z (below : List Frame) (a : Array Value) (s : State) : State → Prop := fun t => ∃ o, t.status = .running ∧ Ended t below o ∧ lw_Q a s o t
/-- the law's own end, with 1 on the stack, nothing written that was there before, its room as the claim has it -/
theorem lw_ret {p : Program} {l : Launch} {e : Env} {s : State} {m : MethodId} {below : List Frame} {meth : Method} {c : Code} {b : Nat} (hx : p.tables.exec = Jvm.exec) (hb : c.code = code) (hr : meth.sig.returnType = ret) (hlocks : meth.locks = false) {pc : Nat} {H : Heap} {ls : Array Slot} (hdg : decode code pc = .ok (.ireturn, 1)) : W p l e room_1 s m #[Value.ref b] below meth c H [] 600000 7302250 (lw_Z below #[Value.ref b] s) (F0 m pc ls [.int 1]) := by
  intro T hT X
  obtain ⟨fs, hret, hrun, hended, hW, hframe⟩ := X.leave (v := some (.int 1)) (hlocks := hlocks) (fun h => by rw [hr] at h; cases h)
  have hmeth' : T.vm.method? m = some meth := X.method'
  refine ⟨T.setFrames fs, ?_, .returned (some (.int 1)), hrun, hended, rfl, ⟨_, rfl⟩, hW, hframe⟩
  jvm_step X.here [X.here.top, hx, hb, hdg, hmeth', hr, ret, narrow_b1]
  (try refine ⟨rfl, ?_⟩); (try refine ⟨rfl, ?_⟩)
  first | (intro acts; rw [hret _ acts rfl rfl rfl]) | rw [hret _ _ rfl rfl rfl]
  exact Steps.refl _
/-- what holds at the law's entry: the machine, the code, the tables' words (any of lw_tbl by 'hts w (by decide +kernel)'), the script of L ints xs at the cell b, what the Statement gives of the start (any of its parts by flat_of_before) -/
def lw_At (p : Program) (s : State) (m : MethodId) (meth : Method) (c : Code) (b L : Nat) (xs : Nat → Int32) : Prop :=
  p.tables.exec = Jvm.exec ∧ c.code = code ∧ meth.sig.returnType = ret ∧ c.maxLocals = 4 ∧ s.vm.findClass R_law = some m.cls ∧ (∀ w ∈ lw_tbl, w.before #[Value.ref b] s = true) ∧ va_X b L xs s s.heap ∧ b < s.heap.size ∧ meth.locks = false ∧ (Jvm.Cond.and given_1 narrow_1).before #[Value.ref b] s = true
/-- what is to be shown of the small machine: the law answers 1 on the script xs -/
def lawOK (xs : List Int32) : Prop := ∃ (n : Nat) (h1 : MH), mrun m_tab xs n true m_L_law 0 (m_ent 4 [.float 0]) [] [] = some (some (.int 1), h1) ∧ h1.length ≤ 600000 ∧ zs h1 ≤ 7302250
theorem nst_0 : (.methodLinkNest "RowingEight" 17 ⟨"RowingEight$Events", "<init>", "()V"⟩ "RowingEight" : Jvm.Cond) ∈ lw_tbl := flk_in (k := 96) (by decide +kernel)
theorem nst_1 : (.methodLinkNest "RowingEight" 24 ⟨"RowingEight$Seen", "<init>", "()V"⟩ "RowingEight" : Jvm.Cond) ∈ lw_tbl := flk_in (k := 121) (by decide +kernel)
theorem nst_2 : (.methodLinkNest "RowingEight" 48 ⟨"RowingEight$Trip", "<init>", "()V"⟩ "RowingEight" : Jvm.Cond) ∈ lw_tbl := flk_in (k := 185) (by decide +kernel)
theorem nst_3 : (.methodLinkNest "RowingEight" 81 ⟨"RowingEight$Sheet", "<init>", "()V"⟩ "RowingEight" : Jvm.Cond) ∈ lw_tbl := flk_in (k := 262) (by decide +kernel)
theorem nst_4 : (.methodLinkNest "RowingEight$Sheet" 32 ⟨"RowingEight", "isBelow", "(II)Z"⟩ "RowingEight" : Jvm.Cond) ∈ lw_tbl := flk_in (k := 640) (by decide +kernel)
theorem aot_in : (.arrayOver (.object "RowingEight$Text") : Jvm.Cond) ∈ lw_tbl := flk_in (k := 93) (by decide +kernel)
theorem aos_in : (.arrayOver (.object "RowingEight$Sheet") : Jvm.Cond) ∈ lw_tbl := flk_in (k := 137) (by decide +kernel)
theorem aoi_in : (.arrayOver (.array .int) : Jvm.Cond) ∈ lw_tbl := flk_in (k := 190) (by decide +kernel)
theorem ins_0 : (.instantiable RX0 7 : Jvm.Cond) ∈ lw_tbl := flk_in (k := 139) (by decide +kernel)
theorem ins_1 : (.instantiable RX1 4 : Jvm.Cond) ∈ lw_tbl := flk_in (k := 95) (by decide +kernel)
theorem ins_2 : (.instantiable RX2 3 : Jvm.Cond) ∈ lw_tbl := flk_in (k := 120) (by decide +kernel)
theorem ins_3 : (.instantiable RX3 4 : Jvm.Cond) ∈ lw_tbl := flk_in (k := 261) (by decide +kernel)
theorem ins_4 : (.instantiable RX4 2 : Jvm.Cond) ∈ lw_tbl := flk_in (k := 245) (by decide +kernel)
theorem ins_5 : (.instantiable RX5 14 : Jvm.Cond) ∈ lw_tbl := flk_in (k := 184) (by decide +kernel)
theorem ins_6 : (.instantiable RX6 14 : Jvm.Cond) ∈ lw_tbl := flk_in (k := 85) (by decide +kernel)
theorem ins_7 : (.instantiable RX7 47 : Jvm.Cond) ∈ lw_tbl := flk_in (k := 713) (by decide +kernel)
theorem W0_in {w : Jvm.Cond} (h : w ∈ W0) : w ∈ lw_tbl := (List.mem_filter.mp h).1
theorem z_arr {s : State} {cA : ClassId} {kA : Class} {comp : ClassId} {ty : FieldType} (h2 : s.vm.classes[cA]? = some kA) (h3 : kA.kind = .array comp ty) : ArrOfT s cA ty := fun n z => ⟨fun k h => (by cases h), kA, h2, comp, h3⟩
set_option maxHeartbeats 4000000 in
/-- THE LAW, from its entry -/
theorem law_start {p : Program} {e : Env} {s : State} {m : MethodId} {below : List Frame} {meth : Method} {c : Code} (l : Launch) {b L : Nat} {xs : Nat → Int32} (hok : lawOK ((List.range L).map xs)) (C0 : lw_At p s m meth c b L xs) : W p l e room_1 s m #[Value.ref b] below meth c s.heap [] 0 0 (lw_Z below #[Value.ref b] s) (entryFrame m ([Value.ref b] : List Value).toArray 4) := by
  obtain ⟨hx, hb, hr, hml, hown, hts, hX, hbl, hlocks, hgv⟩ := C0
  obtain ⟨n, h1, hrun, hc1, hs1⟩ := hok
  have hts0 : ∀ w ∈ W0, w.before #[Value.ref b] s = true := fun w hw => hts w (W0_in hw)
  obtain ⟨c0, iS0, hKn0⟩ := u_known (C := RX0) (T := TX0) (N := 7) (n := 7) hts0 (cls_in 0 _ rfl) (hts _ ins_0)
  obtain ⟨c1, iS1, hKn1⟩ := u_known (C := RX1) (T := TX1) (N := 4) (n := 4) hts0 (cls_in 1 _ rfl) (hts _ ins_1)
  obtain ⟨c2, iS2, hKn2⟩ := u_known (C := RX2) (T := TX2) (N := 3) (n := 3) hts0 (cls_in 2 _ rfl) (hts _ ins_2)
  obtain ⟨c3, iS3, hKn3⟩ := u_known (C := RX3) (T := TX3) (N := 4) (n := 4) hts0 (cls_in 3 _ rfl) (hts _ ins_3)
  obtain ⟨c4, iS4, hKn4⟩ := u_known (C := RX4) (T := TX4) (N := 2) (n := 2) hts0 (cls_in 4 _ rfl) (hts _ ins_4)
  obtain ⟨c5, iS5, hKn5⟩ := u_known (C := RX5) (T := TX5) (N := 14) (n := 14) hts0 (cls_in 5 _ rfl) (hts _ ins_5)
  obtain ⟨c6, iS6, hKn6⟩ := u_known (C := RX6) (T := TX6) (N := 14) (n := 14) hts0 (cls_in 6 _ rfl) (hts _ ins_6)
  obtain ⟨c7, iS7, hKn7⟩ := u_known (C := RX7) (T := TX7) (N := 47) (n := 47) hts0 (cls_in 7 _ rfl) (hts _ ins_7)
  obtain ⟨dC, dI, hKc⟩ : ∃ (dC : Nat → ClassId) (dI : Nat → Nat → Nat), ∀ (k : Nat) (q : vw_C), vwCl[k]? = some q → u_Kn s q.1 q.2.1 q.2.2 (dC k) (dI k) := by
    refine ⟨fun k => if k = 0 then c0 else if k = 1 then c1 else if k = 2 then c2 else if k = 3 then c3 else if k = 4 then c4 else if k = 5 then c5 else if k = 6 then c6 else c7, fun k => if k = 0 then iS0 else if k = 1 then iS1 else if k = 2 then iS2 else if k = 3 then iS3 else if k = 4 then iS4 else if k = 5 then iS5 else if k = 6 then iS6 else iS7, ?_⟩
    intro k q hq
    match k, hq with
    | 0, hq => cases hq; exact hKn0
    | 1, hq => cases hq; exact hKn1
    | 2, hq => cases hq; exact hKn2
    | 3, hq => cases hq; exact hKn3
    | 4, hq => cases hq; exact hKn4
    | 5, hq => cases hq; exact hKn5
    | 6, hq => cases hq; exact hKn6
    | 7, hq => cases hq; exact hKn7
    | k + 8, hq => simp [vwCl] at hq
  obtain ⟨a0, k0, m0, f0, g0, e0⟩ := Cond.arrayClass_spec (hts _ (W0_in ac_int))
  obtain ⟨a1, k1, m1, f1, g1, e1⟩ := Cond.arrayClass_spec (hts _ (W0_in ac_bool))
  obtain ⟨m2, a2, k2, f2, -, g2, e2, n2⟩ := Cond.arrayOver_spec (hts _ aot_in)
  obtain ⟨m3, a3, k3, f3, -, g3, e3, n3⟩ := Cond.arrayOver_spec (hts _ aos_in)
  obtain ⟨m4, a4, k4, f4, -, g4, e4, n4⟩ := arrayOverA_spec (hts _ aoi_in)
  obtain ⟨scr, x1, x2, x3, x4, x5⟩ := hX
  have hK : va_K (dC, dI) vwCl (tysOf (fun t => if t = 0 then a0 else if t = 1 then a1 else if t = 2 then a2 else if t = 3 then a3 else a4)) s := by
    refine ⟨hKc, fun k q hq => ?_⟩
    match k, hq with
    | 0, hq => cases hq; exact ⟨z_arr g0 e0, f0⟩
    | 1, hq => cases hq; exact ⟨z_arr g1 e1, f1⟩
    | 2, hq => cases hq; exact ⟨z_arr g2 e2, k2, m2, g2, e2, f2, n2⟩
    | 3, hq => cases hq; exact ⟨z_arr g3 e3, k3, m3, g3, e3, f3, n3⟩
    | 4, hq => cases hq; exact ⟨z_arr g4 e4, n4⟩
    | k + 5, hq => simp [tysOf] at hq
  have hlen : ((List.range L).map xs).length = L := by simp
  have hZ : zX (fun t => if t = 0 then a0 else if t = 1 then a1 else if t = 2 then a2 else if t = 3 then a3 else a4) (dC, dI) scr ((List.range L).map xs) s := by
    refine ⟨hK, ⟨x2, x3, by rw [hlen]; exact x4, fun j hj => ?_⟩, fun q hq => ?_, va_AO.of (hts _ aot_in), va_AO.of (hts _ aos_in), over_moved (Vm.Alike.refl s.vm) (hts _ aoi_in)⟩
    · rw [hlen] at hj
      rw [x5 j hj, List.getD_eq_getElem?_getD, List.getElem?_map, List.getElem?_range hj]
      rfl
    · simp only [m_nest, List.mem_cons, List.not_mem_nil, or_false] at hq
      rcases hq with rfl | rfl | rfl | rfl | rfl
      · exact va_Nw.of rfl (hts _ nst_0)
      · exact va_Nw.of rfl (hts _ nst_1)
      · exact va_Nw.of rfl (hts _ nst_2)
      · exact va_Nw.of rfl (hts _ nst_3)
      · exact va_Nw.of rfl (hts _ nst_4)
  have C : zC b s.heap.size 0 (fun t => if t = 0 then a0 else if t = 1 then a1 else if t = 2 then a2 else if t = 3 then a3 else a4) (dC, dI) scr ((List.range L).map xs) p room_1 s m #[Value.ref b] meth c m_L_law := ⟨hx, hb, hml, hr, hown, hts0, hlocks, fun h => absurd h (by decide), hZ, by decide, by decide, rfl, hbl, x1⟩
  have := sound okT_all l b s.heap.size (fun t => if t = 0 then a0 else if t = 1 then a1 else if t = 2 then a2 else if t = 3 then a3 else a4) (dC, dI) scr ((List.range L).map xs) n true m_L_law 0 (m_ent 4 [.float 0]) [] [] (some (.int 1)) h1 hrun okL p e room_1 s m #[Value.ref b] below meth c (lw_Z below #[Value.ref b] s) 0 0 _ _ s.heap [] 0 0 C (by rw [Nat.zero_add]; exact hc1) (by rw [Nat.zero_add]; exact hs1) rfl (zR.entry (as := [.float 0]) (by decide)) ⟨fun k q h => by simp [zW] at h, va_S.rf, rfl, rfl⟩ (fun i row L9 st ls H locs cells slots hrow hm rl a => ?_)
  · rw [lg_entry_eq]
    exact this
  · have hck := okL i row hrow
    have hst : row.2.1 = .ireturn ∧ st = [.int 1] := by
      obtain ⟨pc, ins, len, ops⟩ := row
      cases ins
      case ireturn =>
        have hm : o_ret (m_n ops 0) st = some (.inr (.inr (some (.int 1)))) := hm
        unfold o_ret at hm
        split at hm
        · have g := (b_if hm).2
          cases g
          exact ⟨rfl, rfl⟩
        · cases hm
      case lreturn =>
        have hm : o_lret st = some (.inr (.inr (some (.int 1)))) := hm
        unfold o_lret at hm
        split at hm <;> cases hm
      case areturn =>
        have hm : o_aret st = some (.inr (.inr (some (.int 1)))) := hm
        unfold o_aret at hm
        split at hm <;> cases hm
      case return_ =>
        have hm : o_vret st = some (.inr (.inr (some (.int 1)))) := hm
        unfold o_vret at hm
        split at hm <;> cases hm
      case invokevirtual k => exact (k_cv hm).elim
      case invokestatic k =>
        simp only [mexec] at hm
        split at hm
        · exact (i_cpy hm).elim
        · exact (i_mm hm).elim
        · exact (i_mm hm).elim
        · exact (i_ma hm).elim
        · exact (k_cs hm).elim
      case invokespecial k =>
        simp only [mexec] at hm
        split at hm
        · exact (i_obj hm).elim
        · exact (k_ci hm).elim
      case iload => exact (i_il hm).elim
      case iload_n => exact (i_il hm).elim
      case lload => exact (i_jl hm).elim
      case lload_n => exact (i_jl hm).elim
      case aload => exact (i_al hm).elim
      case aload_n => exact (i_al hm).elim
      case istore => exact (i_is hm).elim
      case istore_n => exact (i_is hm).elim
      case lstore => exact (i_js hm).elim
      case lstore_n => exact (i_js hm).elim
      case astore => exact (i_as hm).elim
      case astore_n => exact (i_as hm).elim
      case iinc => exact (i_inc hm).elim
      case dup => exact (i_dup hm).elim
      case dup2 => exact (i_dup2 hm).elim
      case pop => exact (i_pop hm).elim
      case pop2 => exact (i_pop2 hm).elim
      case ladd => exact (i_jj hm).elim
      case lsub => exact (i_jj hm).elim
      case lmul => exact (i_jj hm).elim
      case ldiv => exact (i_jd hm).elim
      case lrem => exact (i_jd hm).elim
      case idiv => exact (i_id hm).elim
      case irem => exact (i_id hm).elim
      case ineg => exact (i_i1 hm).elim
      case i2l => exact (i_i1 hm).elim
      case i2b => exact (i_i1 hm).elim
      case i2s => exact (i_i1 hm).elim
      case lshl => exact (i_lshl hm).elim
      case lcmp => exact (i_lcmp hm).elim
      case ifCond => exact (i_if hm).elim
      case if_icmp => exact (i_icmp hm).elim
      case tableswitch => exact (i_sw hm).elim
      case iaload => exact (i_ald hm).elim
      case baload => exact (i_ald hm).elim
      case iastore => exact (i_ast hm).elim
      case bastore => exact (i_ast hm).elim
      case aaload => exact (i_aald hm).elim
      case aastore => exact (i_aast hm).elim
      case arraylength => exact (i_len hm).elim
      case anewarray => exact (i_newq hm).elim
      case multianewarray => exact (i_newm hm).elim
      case new => exact (i_new hm).elim
      case getfield => exact (i_get hm).elim
      case putfield => exact (i_put hm).elim
      case iadd => exact (i_ii hm).elim
      case isub => exact (i_ii hm).elim
      case imul => exact (i_ii hm).elim
      case iand => exact (i_ii hm).elim
      case ior => exact (i_ii hm).elim
      case ixor => exact (i_ii hm).elim
      case ishl => exact (i_ii hm).elim
      case ishr => exact (i_ii hm).elim
      case iushr => exact (i_ii hm).elim
      case iconst => exact (i_nx hm).elim
      case bipush => exact (i_nx hm).elim
      case sipush => exact (i_nx hm).elim
      case ldc => exact (i_nx hm).elim
      case ldc_w => exact (i_nx hm).elim
      case ldc2_w => exact (i_nx hm).elim
      case lconst => exact (i_nx hm).elim
      case goto off => cases hm
      case newarray t =>
        cases t
        case int => exact (i_newa hm).elim
        case boolean => exact (i_newa hm).elim
        all_goals exact nomatch (show (none : Option MO) = some _ from hm)
      all_goals exact nomatch (show (none : Option MO) = some _ from hm)
    obtain ⟨hi, rfl⟩ := hst
    unfold m_chk at hck
    obtain ⟨hd, hck⟩ := b_and hck
    obtain ⟨hlen2, -⟩ := b_and hck
    have hd := of_decide_eq_true hd
    rw [hi] at hd hlen2
    have hl1 : row.2.2.1 = 1 := lenOf hlen2 rfl (by decide)
    rw [hl1] at hd
    refine va_forget (fun q hq => a.2.1.2.2 q hq) ?_
    refine W.widen (k := 600000) (n := 7302250) (by have := a.2.2.1; omega) (by have := a.2.2.2; omega) ?_
    exact lw_ret hx hb hr hlocks hd
