/-! the model: its queries return, keep the ranges and what is frozen (printed by wip/p1/absint.py) -/
def HM : AH := [.inr (.inl (99, [])), .inr (.inl (99, [])), .inr (.inl (99, [])), .inr (.inl (99, [])), .inr (.inl (99, [])), .inr (.inl (99, [])), .inr (.inl (99, [])), .inr (.inl (99, [])), .inr (.inl (99, [])), .inr (.inl (99, [])), .inr (.inl (99, [])), .inr (.inl (99, [])), .inr (.inl (99, [])), .inr (.inl (99, [])), .inr (.inl (99, [])), .inr (.inl (99, [])), .inr (.inl (99, [])), .inr (.inl (99, [])), .inr (.inl (99, [])), .inr (.inl (99, [])), .inr (.inl (99, [])), .inr (.inl (99, [])), .inr (.inl (99, [])), .inr (.inl (99, [])), .inr (.inl (99, [])), .inr (.inl (99, [])), .inr (.inl (99, [])), .inr (.inl (99, [])), .inr (.inl (99, [])), .inr (.inl (99, [])), .inr (.inl (99, [])), .inr (.inl (99, [])), .inr (.inl (99, [])), .inr (.inl (99, [])), .inr (.inl (99, [])), .inr (.inl (99, [])), .inr (.inl (99, [])), .inr (.inl (99, [])), .inr (.inl (99, [])), .inr (.inl (99, [])), .inr (.inl (99, [])), .inr (.inl (99, [])), .inr (.inl (99, [])), .inr (.inl (99, [])), .inr (.inl (99, [])), .inr (.inl (99, [])), .inr (.inl (99, [])), .inr (.inl (99, [])), .inr (.inl (99, [])), .inr (.inl (99, [])), .inr (.inl (99, [])), .inr (.inl (99, [])), .inr (.inl (99, [])), .inr (.inl (99, [])), .inr (.inl (99, [])), .inr (.inl (99, [])), .inr (.inl (99, [])), .inr (.inl (99, [])), .inr (.inl (99, [])), .inr (.inl (99, [])), .inr (.inl (99, [])), .inr (.inl (99, [])), .inr (.inl (99, [])), .inr (.inl (99, [])), .inr (.inl (99, [])), .inr (.inl (99, [])), .inr (.inl (99, [])), .inr (.inl (99, [])), .inr (.inl (99, [])), .inr (.inl (99, [])), .inr (.inl (99, [])), .inr (.inl (99, [])), .inr (.inl (99, [])), .inr (.inl (99, [])), .inr (.inl (99, [])), .inr (.inl (99, [])), .inr (.inl (99, [])), .inr (.inl (99, [])), .inr (.inl (99, [])), .inr (.inl (99, [])), .inr (.inl (99, [])), .inr (.inl (99, [])), .inr (.inl (99, [])), .inr (.inl (99, [])), .inr (.inl (99, [])), .inr (.inl (99, [])), .inr (.inl (99, [])), .inr (.inl (99, [])), .inr (.inl (99, [])), .inr (.inl (99, [])), .inr (.inl (99, [])), .inr (.inl (99, [])), .inr (.inl (99, [])), .inr (.inl (99, [])), .inr (.inl (99, [])), .inr (.inl (99, [])), .inr (.inl (99, [])), .inr (.inl (99, [])), .inr (.inl (99, [])), .inr (.inl (99, [])), .inr (.inl (99, [])), .inr (.inl (99, [])), .inr (.inl (99, [])), .inr (.inl (99, [])), .inr (.inl (99, [])), .inr (.inl (99, [])), .inr (.inl (99, [])), .inr (.inl (99, [])), .inr (.inl (99, [])), .inr (.inl (99, [])), .inr (.inl (99, [])), .inr (.inl (99, [])), .inr (.inl (99, [])), .inr (.inl (99, [])), .inr (.inl (99, [])), .inr (.inl (99, [])), .inr (.inl (99, [])), .inr (.inl (99, [])), .inr (.inl (99, [])), .inr (.inl (99, [])), .inr (.inl (99, [])), .inr (.inl (99, [])), .inr (.inl (99, [])), .inr (.inr (7, [.inl 124, .inl 125, .inr (0, 8, false), .inl 126, .inl 127, .inr ((-2147483648), 2147483647, false), .inl 128, .inr ((-2147483648), 2147483647, false), .inl 129, .inr ((-2147483648), 2147483647, true), .inr ((-2147483648), 2147483647, true), .inr (0, 8, true), .inl 130, .inl 131, .inl 132, .inl 133, .inl 134, .inr ((-2147483648), 2147483647, false), .inl 135, .inr ((-2147483648), 2147483647, false), .inr ((-2147483648), 2147483647, false), .inr ((-2147483648), 2147483647, false), .inr ((-2147483648), 2147483647, false), .inr ((-2147483648), 2147483647, false), .inr ((-2147483648), 2147483647, false), .inr ((-2147483648), 2147483647, false), .inr ((-2147483648), 2147483647, false), .inr ((-2147483648), 2147483647, false), .inl 136, .inl 137, .inl 138, .inl 139, .inl 140, .inl 141, .inl 142, .inl 143, .inl 144, .inr (0, 8, true), .inl 145, .inl 146, .inl 147, .inl 148, .inl 149, .inl 150, .inl 151, .inl 152, .inr ((-2147483648), 2147483647, true)])), .inl (0, 3, 0, 24, true), .inl (0, 72, (-2147483648), 2147483647, true), .inl (0, 9, (-2147483648), 2147483647, false), .inl (0, 9, (-2147483648), 2147483647, false), .inl (0, 24, (-2147483648), 2147483647, false), .inl (0, 24, (-2147483648), 2147483647, false), .inl (0, 8, (-2147483648), 2147483647, true), .inl (0, 8, (-2147483648), 2147483647, true), .inl (0, 8, (-2147483648), 2147483647, true), .inl (0, 24, (-2147483648), 2147483647, false), .inl (0, 24, (-2147483648), 2147483647, false), .inl (0, 8, 0, 7, false), .inl (0, 2, (-2147483648), 2147483647, false), .inl (0, 8, (-2147483648), 2147483647, false), .inl (0, 8, (-2147483648), 2147483647, false), .inl (0, 24, (-2147483648), 2147483647, false), .inl (0, 24, (-2147483648), 2147483647, false), .inl (0, 48, (-2147483648), 2147483647, false), .inl (0, 24, (-2147483648), 2147483647, false), .inl (0, 192, (-2147483648), 2147483647, false), .inl (0, 2, (-2147483648), 2147483647, false), .inl (0, 8, 0, 23, true), .inl (0, 8, (-2147483648), 2147483647, true), .inl (0, 240, (-2147483648), 2147483647, false), .inl (1, 4, 0, 1, true), .inl (0, 4, (-2147483648), 2147483647, true), .inl (0, 4, 0, 60, true), .inl (0, 240, (-2147483648), 2147483647, true), .inl (0, 60, (-2147483648), 2147483647, false)]
/-- X7_in -/
def cm1 : CT := (92, [.inl ((-2147483648), 2147483647, none), .inl (0, 0, none), .inl (2, 2, none)], [(some (.inl (1, 1, none)), [(0, 0, 2)]), (some (.inl (0, 0, none)), [])])
theorem p_cm1 : CtP HM cm1 := ct_of (cts := []) (hds := []) (w := 0) (fuel := 12) (fun _ h => absurd h List.not_mem_nil) (by decide +kernel)
/-- X7_isText -/
def cm2 : CT := (96, [.inl ((-2147483648), 2147483647, none)], [(some (.inl (1, 1, none)), [(0, 0, 2)]), (some (.inl (0, 0, none)), [])])
theorem p_cm2 : CtP HM cm2 := ct_of (cts := [cm1]) (hds := []) (w := 0) (fuel := 7) (List.forall_mem_cons.mpr ⟨p_cm1, fun _ h => absurd h List.not_mem_nil⟩) (by decide +kernel)
/-- X7_byteAt -/
def cm3 : CT := (104, [.inr (.inl [123]), .inl (0, 2, none), .inl (0, 2147483647, none)], [(some (.inl ((-2147483648), 2147483647, none)), [(2, 0, 23)]), (some (.inl ((-1), (-1), none)), [])])
theorem p_cm3 : CtP HM cm3 := ct_of (cts := []) (hds := []) (w := 0) (fuel := 19) (fun _ h => absurd h List.not_mem_nil) (by decide +kernel)
/-- X7_in -/
def cm4 : CT := (92, [.inl ((-2147483648), 2147483647, none), .inl (1, 1, none), .inl (9, 9, none)], [(some (.inl (1, 1, none)), [(0, 1, 9)]), (some (.inl (0, 0, none)), [])])
theorem p_cm4 : CtP HM cm4 := ct_of (cts := []) (hds := []) (w := 0) (fuel := 12) (fun _ h => absurd h List.not_mem_nil) (by decide +kernel)
/-- X7_readsRower -/
def cm5 : CT := (105, [.inr (.inl [123]), .inl (0, 8, none), .inl (0, 1000, none)], [(some (.inl (0, 0, none)), []), (some (.inl (1, 1, none)), [(1, 0, 7), (2, 0, 23)]), (some (.inl (2, 2, none)), [(1, 0, 7), (2, 0, 23)])])
theorem p_cm5 : CtP HM cm5 := ct_of (cts := [cm3, cm4]) (hds := []) (w := 0) (fuel := 60) (List.forall_mem_cons.mpr ⟨p_cm3, List.forall_mem_cons.mpr ⟨p_cm4, fun _ h => absurd h List.not_mem_nil⟩⟩) (by decide +kernel)
/-- X7_readsCrew -/
def cm6 : CT := (106, [.inr (.inl [123])], [(some (.inl ((-1), 25, none)), [])])
theorem p_cm6 : CtP HM cm6 := ct_of (cts := [cm3, cm5]) (hds := [(7, [some (.inr (.inl [123])), some (.inl (0, 8, none)), some (.inl (0, 24, none)), none], 0, [(1, 1, 8)])]) (w := 9) (fuel := 54) (List.forall_mem_cons.mpr ⟨p_cm3, List.forall_mem_cons.mpr ⟨p_cm5, fun _ h => absurd h List.not_mem_nil⟩⟩) (by decide +kernel)
/-- X7_in -/
def cm7 : CT := (92, [.inl ((-2147483648), 2147483647, none), .inl (48, 48, none), .inl (51, 51, none)], [(some (.inl (1, 1, none)), [(0, 48, 51)]), (some (.inl (0, 0, none)), [])])
theorem p_cm7 : CtP HM cm7 := ct_of (cts := []) (hds := []) (w := 0) (fuel := 12) (fun _ h => absurd h List.not_mem_nil) (by decide +kernel)
/-- X7_readsRates -/
def cm8 : CT := (107, [.inr (.inl [123])], [(some (.inl ((-1), 23, none)), [])])
theorem p_cm8 : CtP HM cm8 := ct_of (cts := [cm3, cm7]) (hds := [(5, [some (.inr (.inl [123])), some (.inl (0, 24, none))], 50, [(1, 1, 24)]), (17, [some (.inr (.inl [123])), some (.inl (0, 24, none))], 25, [(1, 1, 24)]), (37, [some (.inr (.inl [123])), some (.inl (0, 24, none))], 0, [(1, 1, 24)])]) (w := 75) (fuel := 65) (List.forall_mem_cons.mpr ⟨p_cm3, List.forall_mem_cons.mpr ⟨p_cm7, fun _ h => absurd h List.not_mem_nil⟩⟩) (by decide +kernel)
/-- X7_rudderBy -/
def cm9 : CT := (108, [.inl ((-2147483648), 2147483647, none)], [(some (.inl ((-1), 2, none)), [])])
theorem p_cm9 : CtP HM cm9 := ct_of (cts := []) (hds := []) (w := 0) (fuel := 19) (fun _ h => absurd h List.not_mem_nil) (by decide +kernel)
/-- X7_readsRudder -/
def cm10 : CT := (109, [.inr (.inl [123])], [(some (.inl ((-1), 23, none)), [])])
theorem p_cm10 : CtP HM cm10 := ct_of (cts := [cm3, cm9]) (hds := [(5, [some (.inr (.inl [123])), some (.inl (0, 24, none))], 50, [(1, 1, 24)]), (17, [some (.inr (.inl [123])), some (.inl (0, 24, none))], 25, [(1, 1, 24)]), (36, [some (.inr (.inl [123])), some (.inl (0, 24, none))], 0, [(1, 1, 24)])]) (w := 75) (fuel := 63) (List.forall_mem_cons.mpr ⟨p_cm3, List.forall_mem_cons.mpr ⟨p_cm9, fun _ h => absurd h List.not_mem_nil⟩⟩) (by decide +kernel)
/-- X7_faultOf -/
def cm11 : CT := (110, [.inr (.inl [123]), .inl ((-2147483648), 2147483647, none)], [(some (.inl ((-1), 25, none)), [])])
theorem p_cm11 : CtP HM cm11 := ct_of (cts := [cm6, cm8, cm10]) (hds := []) (w := 0) (fuel := 22) (List.forall_mem_cons.mpr ⟨p_cm6, List.forall_mem_cons.mpr ⟨p_cm8, List.forall_mem_cons.mpr ⟨p_cm10, fun _ h => absurd h List.not_mem_nil⟩⟩⟩) (by decide +kernel)
/-- X7_fault -/
def cm12 : CT := (112, [.inr (.inl [123]), .inl ((-2147483648), 2147483647, none)], [(some (.inl ((-2), 25, none)), [])])
theorem p_cm12 : CtP HM cm12 := ct_of (cts := [cm2, cm11]) (hds := []) (w := 0) (fuel := 11) (List.forall_mem_cons.mpr ⟨p_cm2, List.forall_mem_cons.mpr ⟨p_cm11, fun _ h => absurd h List.not_mem_nil⟩⟩) (by decide +kernel)
/-- X7_reads -/
def cm13 : CT := (111, [.inr (.inl [123])], [(none, [])])
theorem p_cm13 : CtP HM cm13 := ct_of (cts := [cm11]) (hds := []) (w := 0) (fuel := 7) (List.forall_mem_cons.mpr ⟨p_cm11, fun _ h => absurd h List.not_mem_nil⟩) (by decide +kernel)
/-- X7_in -/
def cm14 : CT := (92, [.inl ((-2147483648), 2147483647, none), .inl (0, 0, none), .inl ((-1), 7, none)], [(some (.inl (1, 1, none)), [(0, 0, 7), (2, 0, 7)]), (some (.inl (0, 0, none)), [])])
theorem p_cm14 : CtP HM cm14 := ct_of (cts := []) (hds := []) (w := 0) (fuel := 12) (fun _ h => absurd h List.not_mem_nil) (by decide +kernel)
/-- X7_isRower -/
def cm15 : CT := (113, [.inr (.inl [123]), .inl ((-2147483648), 2147483647, none)], [(some (.inl (1, 1, none)), [(1, 0, 7)]), (some (.inl (0, 0, none)), [])])
theorem p_cm15 : CtP HM cm15 := ct_of (cts := [cm13, cm14]) (hds := []) (w := 0) (fuel := 12) (List.forall_mem_cons.mpr ⟨p_cm13, List.forall_mem_cons.mpr ⟨p_cm14, fun _ h => absurd h List.not_mem_nil⟩⟩) (by decide +kernel)
/-- X7_in -/
def cm16 : CT := (92, [.inl ((-2147483648), 2147483647, none), .inl (0, 0, none), .inl (1, 1, none)], [(some (.inl (1, 1, none)), [(0, 0, 1)]), (some (.inl (0, 0, none)), [])])
theorem p_cm16 : CtP HM cm16 := ct_of (cts := []) (hds := []) (w := 0) (fuel := 12) (fun _ h => absurd h List.not_mem_nil) (by decide +kernel)
/-- X7_isTwo -/
def cm17 : CT := (98, [.inl ((-2147483648), 2147483647, none)], [(some (.inl (1, 1, none)), [(0, 0, 1)]), (some (.inl (0, 0, none)), [])])
theorem p_cm17 : CtP HM cm17 := ct_of (cts := [cm16]) (hds := []) (w := 0) (fuel := 7) (List.forall_mem_cons.mpr ⟨p_cm16, fun _ h => absurd h List.not_mem_nil⟩) (by decide +kernel)
/-- X7_rowerOf -/
def cm18 : CT := (114, [.inr (.inl [123]), .inl (0, 7, none), .inl ((-2147483648), 2147483647, none)], [(some (.inl ((-2147483648), 2147483647, none)), [])])
theorem p_cm18 : CtP HM cm18 := ct_of (cts := []) (hds := []) (w := 0) (fuel := 14) (fun _ h => absurd h List.not_mem_nil) (by decide +kernel)
/-- X7_rower -/
def cm19 : CT := (115, [.inr (.inl [123]), .inl ((-2147483648), 2147483647, none), .inl ((-2147483648), 2147483647, none)], [(some (.inl ((-2147483648), 2147483647, none)), [])])
theorem p_cm19 : CtP HM cm19 := ct_of (cts := [cm15, cm17, cm18]) (hds := []) (w := 0) (fuel := 16) (List.forall_mem_cons.mpr ⟨p_cm15, List.forall_mem_cons.mpr ⟨p_cm17, List.forall_mem_cons.mpr ⟨p_cm18, fun _ h => absurd h List.not_mem_nil⟩⟩⟩) (by decide +kernel)
/-- X7_in -/
def cm20 : CT := (92, [.inl ((-2147483648), 2147483647, none), .inl (0, 0, none), .inl (23, 23, none)], [(some (.inl (1, 1, none)), [(0, 0, 23)]), (some (.inl (0, 0, none)), [])])
theorem p_cm20 : CtP HM cm20 := ct_of (cts := []) (hds := []) (w := 0) (fuel := 12) (fun _ h => absurd h List.not_mem_nil) (by decide +kernel)
/-- X7_isMinute -/
def cm21 : CT := (97, [.inl ((-2147483648), 2147483647, none)], [(some (.inl (1, 1, none)), [(0, 0, 23)]), (some (.inl (0, 0, none)), [])])
theorem p_cm21 : CtP HM cm21 := ct_of (cts := [cm20]) (hds := []) (w := 0) (fuel := 7) (List.forall_mem_cons.mpr ⟨p_cm20, fun _ h => absurd h List.not_mem_nil⟩) (by decide +kernel)
/-- X7_callOf -/
def cm22 : CT := (116, [.inr (.inl [123]), .inl (0, 23, none), .inl ((-2147483648), 2147483647, none)], [(some (.inl ((-2147483648), 2147483647, none)), [])])
theorem p_cm22 : CtP HM cm22 := ct_of (cts := [cm13]) (hds := []) (w := 0) (fuel := 16) (List.forall_mem_cons.mpr ⟨p_cm13, fun _ h => absurd h List.not_mem_nil⟩) (by decide +kernel)
/-- X7_call -/
def cm23 : CT := (117, [.inr (.inl [123]), .inl ((-2147483648), 2147483647, none), .inl ((-2147483648), 2147483647, none)], [(some (.inl ((-2147483648), 2147483647, none)), [])])
theorem p_cm23 : CtP HM cm23 := ct_of (cts := [cm17, cm21, cm22]) (hds := []) (w := 0) (fuel := 15) (List.forall_mem_cons.mpr ⟨p_cm17, List.forall_mem_cons.mpr ⟨p_cm21, List.forall_mem_cons.mpr ⟨p_cm22, fun _ h => absurd h List.not_mem_nil⟩⟩⟩) (by decide +kernel)
/-- X7_in -/
def cm24 : CT := (92, [.inl ((-2147483648), 2147483647, none), .inl (0, 0, none), .inl (4, 4, none)], [(some (.inl (1, 1, none)), [(0, 0, 4)]), (some (.inl (0, 0, none)), [])])
theorem p_cm24 : CtP HM cm24 := ct_of (cts := []) (hds := []) (w := 0) (fuel := 12) (fun _ h => absurd h List.not_mem_nil) (by decide +kernel)
/-- X7_asTold -/
def cm25 : CT := (122, [.inr (.inl [123])], [(none, [])])
theorem p_cm25 : CtP HM cm25 := ct_of (cts := [cm13]) (hds := [(4, [some (.inr (.inl [123])), some (.inl (0, 24, none))], 9, [(1, 1, 24)]), (30, [some (.inr (.inl [123])), some (.inl (0, 8, none))], 0, [(1, 1, 8)])]) (w := 34) (fuel := 43) (List.forall_mem_cons.mpr ⟨p_cm13, fun _ h => absurd h List.not_mem_nil⟩) (by decide +kernel)
/-- X7_isIn -/
def cm26 : CT := (93, [.inl ((-2147483648), 2147483647, none), .inl ((-2147483648), 2147483647, none)], [(some (.inl (1, 1, none)), []), (some (.inl (0, 0, none)), [])])
theorem p_cm26 : CtP HM cm26 := ct_of (cts := []) (hds := []) (w := 0) (fuel := 13) (fun _ h => absurd h List.not_mem_nil) (by decide +kernel)
/-- X7_befalls -/
def cm27 : CT := (123, [.inr (.inl [123]), .inl ((-2147483648), 2147483647, none)], [(none, [])])
theorem p_cm27 : CtP HM cm27 := ct_of (cts := [cm26]) (hds := [(11, [some (.inr (.inl [123])), some (.inl ((-2147483648), 2147483647, none)), some (.inl (0, 8, none))], 0, [(2, 1, 8)])]) (w := 9) (fuel := 87) (List.forall_mem_cons.mpr ⟨p_cm26, fun _ h => absurd h List.not_mem_nil⟩) (by decide +kernel)
/-- X7_pullsOne -/
def cm28 : CT := (124, [.inr (.inl [123]), .inl (0, 23, none), .inl (0, 7, none)], [(none, [])])
theorem p_cm28 : CtP HM cm28 := ct_of (cts := []) (hds := []) (w := 0) (fuel := 84) (fun _ h => absurd h List.not_mem_nil) (by decide +kernel)
/-- X7_goes -/
def cm29 : CT := (125, [.inr (.inl [123]), .inl (0, 23, none)], [(none, [])])
theorem p_cm29 : CtP HM cm29 := ct_of (cts := [cm26, cm28]) (hds := [(7, [some (.inr (.inl [123])), some (.inl (0, 23, none)), some (.inl ((-2147483648), 2147483647, none)), some (.inl (0, 8, none)), none, none], 0, [(3, 1, 8)])]) (w := 9) (fuel := 187) (List.forall_mem_cons.mpr ⟨p_cm26, List.forall_mem_cons.mpr ⟨p_cm28, fun _ h => absurd h List.not_mem_nil⟩⟩) (by decide +kernel)
/-- X7_goesBy -/
def cm30 : CT := (126, [.inr (.inl [123]), .inl (0, 23, none)], [(none, [])])
theorem p_cm30 : CtP HM cm30 := ct_of (cts := [cm27, cm29]) (hds := [(20, [some (.inr (.inl [123])), some (.inl (0, 23, none)), some (.inl (0, 8, none))], 0, [(2, 1, 8)])]) (w := 9) (fuel := 102) (List.forall_mem_cons.mpr ⟨p_cm27, List.forall_mem_cons.mpr ⟨p_cm29, fun _ h => absurd h List.not_mem_nil⟩⟩) (by decide +kernel)
/-- X7_runs -/
def cm31 : CT := (127, [.inr (.inl [123])], [(none, [])])
theorem p_cm31 : CtP HM cm31 := ct_of (cts := [cm30]) (hds := [(20, [some (.inr (.inl [123])), some (.inl (0, 8, none))], 25, [(1, 1, 8)]), (37, [some (.inr (.inl [123])), some (.inl (0, 24, none))], 0, [(1, 1, 24)])]) (w := 34) (fuel := 48) (List.forall_mem_cons.mpr ⟨p_cm30, fun _ h => absurd h List.not_mem_nil⟩) (by decide +kernel)
/-- X7_runsTold -/
def cm32 : CT := (128, [.inr (.inl [123])], [(none, [])])
theorem p_cm32 : CtP HM cm32 := ct_of (cts := [cm25, cm31]) (hds := []) (w := 0) (fuel := 7) (List.forall_mem_cons.mpr ⟨p_cm25, List.forall_mem_cons.mpr ⟨p_cm31, fun _ h => absurd h List.not_mem_nil⟩⟩) (by decide +kernel)
/-- X7_atOf -/
def cm33 : CT := (129, [.inr (.inl [123]), .inl (0, 23, none), .inl ((-2147483648), 2147483647, none)], [(some (.inl ((-2147483648), 2147483647, none)), [])])
theorem p_cm33 : CtP HM cm33 := ct_of (cts := [cm32]) (hds := []) (w := 0) (fuel := 37) (List.forall_mem_cons.mpr ⟨p_cm32, fun _ h => absurd h List.not_mem_nil⟩) (by decide +kernel)
/-- X7_at -/
def cm34 : CT := (130, [.inr (.inl [123]), .inl ((-2147483648), 2147483647, none), .inl ((-2147483648), 2147483647, none)], [(some (.inl ((-2147483648), 2147483647, none)), [])])
theorem p_cm34 : CtP HM cm34 := ct_of (cts := [cm21, cm24, cm33]) (hds := []) (w := 0) (fuel := 17) (List.forall_mem_cons.mpr ⟨p_cm21, List.forall_mem_cons.mpr ⟨p_cm24, List.forall_mem_cons.mpr ⟨p_cm33, fun _ h => absurd h List.not_mem_nil⟩⟩⟩) (by decide +kernel)
/-- X7_pullsOf -/
def cm35 : CT := (131, [.inr (.inl [123]), .inl (0, 23, none), .inl (0, 7, none)], [(some (.inl ((-2147483648), 2147483647, none)), [])])
theorem p_cm35 : CtP HM cm35 := ct_of (cts := [cm32]) (hds := []) (w := 0) (fuel := 13) (List.forall_mem_cons.mpr ⟨p_cm32, fun _ h => absurd h List.not_mem_nil⟩) (by decide +kernel)
/-- X7_pulls -/
def cm36 : CT := (132, [.inr (.inl [123]), .inl ((-2147483648), 2147483647, none), .inl ((-2147483648), 2147483647, none)], [(some (.inl ((-2147483648), 2147483647, none)), [])])
theorem p_cm36 : CtP HM cm36 := ct_of (cts := [cm15, cm21, cm35]) (hds := []) (w := 0) (fuel := 16) (List.forall_mem_cons.mpr ⟨p_cm15, List.forall_mem_cons.mpr ⟨p_cm21, List.forall_mem_cons.mpr ⟨p_cm35, fun _ h => absurd h List.not_mem_nil⟩⟩⟩) (by decide +kernel)
/-- X7_doneOf -/
def cm37 : CT := (133, [.inr (.inl [123]), .inl (0, 7, none), .inl ((-2147483648), 2147483647, none)], [(some (.inl ((-2147483648), 2147483647, none)), [])])
theorem p_cm37 : CtP HM cm37 := ct_of (cts := [cm32]) (hds := []) (w := 0) (fuel := 16) (List.forall_mem_cons.mpr ⟨p_cm32, fun _ h => absurd h List.not_mem_nil⟩) (by decide +kernel)
/-- X7_done -/
def cm38 : CT := (134, [.inr (.inl [123]), .inl ((-2147483648), 2147483647, none), .inl ((-2147483648), 2147483647, none)], [(some (.inl ((-2147483648), 2147483647, none)), [])])
theorem p_cm38 : CtP HM cm38 := ct_of (cts := [cm15, cm17, cm37]) (hds := []) (w := 0) (fuel := 16) (List.forall_mem_cons.mpr ⟨p_cm15, List.forall_mem_cons.mpr ⟨p_cm17, List.forall_mem_cons.mpr ⟨p_cm37, fun _ h => absurd h List.not_mem_nil⟩⟩⟩) (by decide +kernel)
/-- X7_thereOf -/
def cm39 : CT := (135, [.inr (.inl [123])], [(some (.inl ((-2147483648), 2147483647, none)), [])])
theorem p_cm39 : CtP HM cm39 := ct_of (cts := [cm32]) (hds := []) (w := 0) (fuel := 7) (List.forall_mem_cons.mpr ⟨p_cm32, fun _ h => absurd h List.not_mem_nil⟩) (by decide +kernel)
/-- X7_there -/
def cm40 : CT := (136, [.inr (.inl [123])], [(some (.inl ((-2147483648), 2147483647, none)), [])])
theorem p_cm40 : CtP HM cm40 := ct_of (cts := [cm39]) (hds := []) (w := 0) (fuel := 5) (List.forall_mem_cons.mpr ⟨p_cm39, fun _ h => absurd h List.not_mem_nil⟩) (by decide +kernel)
/-- X7_groundedOf -/
def cm41 : CT := (137, [.inr (.inl [123]), .inl ((-2147483648), 2147483647, none)], [(some (.inl ((-2147483648), 2147483647, none)), [])])
theorem p_cm41 : CtP HM cm41 := ct_of (cts := [cm32]) (hds := []) (w := 0) (fuel := 12) (List.forall_mem_cons.mpr ⟨p_cm32, fun _ h => absurd h List.not_mem_nil⟩) (by decide +kernel)
/-- X7_grounded -/
def cm42 : CT := (138, [.inr (.inl [123]), .inl ((-2147483648), 2147483647, none)], [(some (.inl ((-2147483648), 2147483647, none)), [])])
theorem p_cm42 : CtP HM cm42 := ct_of (cts := [cm17, cm41]) (hds := []) (w := 0) (fuel := 11) (List.forall_mem_cons.mpr ⟨p_cm17, List.forall_mem_cons.mpr ⟨p_cm41, fun _ h => absurd h List.not_mem_nil⟩⟩) (by decide +kernel)
/-- X7_strayNow -/
def cm43 : CT := (139, [.inr (.inl [123])], [(some (.inl ((-2147483648), 2147483647, none)), [])])
theorem p_cm43 : CtP HM cm43 := ct_of (cts := []) (hds := []) (w := 0) (fuel := 16) (fun _ h => absurd h List.not_mem_nil) (by decide +kernel)
/-- X7_strayOf -/
def cm44 : CT := (140, [.inr (.inl [123]), .inl ((-2147483648), 2147483647, none)], [(some (.inl ((-2147483648), 2147483647, none)), [])])
theorem p_cm44 : CtP HM cm44 := ct_of (cts := [cm32, cm43]) (hds := []) (w := 0) (fuel := 12) (List.forall_mem_cons.mpr ⟨p_cm32, List.forall_mem_cons.mpr ⟨p_cm43, fun _ h => absurd h List.not_mem_nil⟩⟩) (by decide +kernel)
/-- X7_stray -/
def cm45 : CT := (141, [.inr (.inl [123]), .inl ((-2147483648), 2147483647, none)], [(some (.inl ((-2147483648), 2147483647, none)), [])])
theorem p_cm45 : CtP HM cm45 := ct_of (cts := [cm17, cm44]) (hds := []) (w := 0) (fuel := 11) (List.forall_mem_cons.mpr ⟨p_cm17, List.forall_mem_cons.mpr ⟨p_cm44, fun _ h => absurd h List.not_mem_nil⟩⟩) (by decide +kernel)
/-- X7_bestOf -/
def cm46 : CT := (142, [.inr (.inl [123])], [(some (.inl ((-1), 7, none)), [])])
theorem p_cm46 : CtP HM cm46 := ct_of (cts := [cm32]) (hds := [(8, [some (.inr (.inl [123])), some (.inl ((-1), 7, none)), some (.inl ((-2147483648), 2147483647, none)), some (.inl (0, 8, none))], 0, [(3, 1, 8)])]) (w := 9) (fuel := 41) (List.forall_mem_cons.mpr ⟨p_cm32, fun _ h => absurd h List.not_mem_nil⟩) (by decide +kernel)
/-- X7_best -/
def cm47 : CT := (143, [.inr (.inl [123])], [(some (.inl ((-1), 7, none)), [])])
theorem p_cm47 : CtP HM cm47 := ct_of (cts := [cm46]) (hds := []) (w := 0) (fuel := 5) (List.forall_mem_cons.mpr ⟨p_cm46, fun _ h => absurd h List.not_mem_nil⟩) (by decide +kernel)
/-- X7_idleOf -/
def cm48 : CT := (144, [.inr (.inl [123])], [(some (.inl ((-2147483648), 2147483647, none)), [])])
theorem p_cm48 : CtP HM cm48 := ct_of (cts := [cm32]) (hds := [(6, [some (.inr (.inl [123])), some (.inl ((-2147483648), 2147483647, none)), some (.inl (0, 8, none))], 0, [(2, 1, 8)])]) (w := 9) (fuel := 29) (List.forall_mem_cons.mpr ⟨p_cm32, fun _ h => absurd h List.not_mem_nil⟩) (by decide +kernel)
/-- X7_idle -/
def cm49 : CT := (145, [.inr (.inl [123])], [(some (.inl ((-2147483648), 2147483647, none)), [])])
theorem p_cm49 : CtP HM cm49 := ct_of (cts := [cm48]) (hds := []) (w := 0) (fuel := 5) (List.forall_mem_cons.mpr ⟨p_cm48, fun _ h => absurd h List.not_mem_nil⟩) (by decide +kernel)
/-- X7_isThree -/
def cm50 : CT := (99, [.inl ((-2147483648), 2147483647, none)], [(some (.inl (1, 1, none)), [(0, 0, 2)]), (some (.inl (0, 0, none)), [])])
theorem p_cm50 : CtP HM cm50 := ct_of (cts := [cm1]) (hds := []) (w := 0) (fuel := 7) (List.forall_mem_cons.mpr ⟨p_cm1, fun _ h => absurd h List.not_mem_nil⟩) (by decide +kernel)
/-- X7_swapOf -/
def cm51 : CT := (146, [.inr (.inl [123]), .inl ((-2147483648), 2147483647, none)], [(some (.inl ((-2147483648), 2147483647, none)), [])])
theorem p_cm51 : CtP HM cm51 := ct_of (cts := [cm25, cm31]) (hds := [(8, [some (.inr (.inl [123])), some (.inl ((-2147483648), 2147483647, none)), some (.inl ((-1), 239, none)), some (.inl ((-2147483648), 2147483647, none)), some (.inl (0, 8, none)), none], 8, [(4, 9, 8)]), (16, [some (.inr (.inl [123])), some (.inl ((-2147483648), 2147483647, none)), some (.inl ((-1), 239, none)), some (.inl ((-2147483648), 2147483647, none)), some (.inl (0, 7, none)), some (.inl (1, 8, none))], 0, [(4, 9, 8), (5, 1, 8)])]) (w := 81) (fuel := 89) (List.forall_mem_cons.mpr ⟨p_cm25, List.forall_mem_cons.mpr ⟨p_cm31, fun _ h => absurd h List.not_mem_nil⟩⟩) (by decide +kernel)
/-- X7_swap -/
def cm52 : CT := (147, [.inr (.inl [123]), .inl ((-2147483648), 2147483647, none)], [(some (.inl ((-2147483648), 2147483647, none)), [])])
theorem p_cm52 : CtP HM cm52 := ct_of (cts := [cm50, cm51]) (hds := []) (w := 0) (fuel := 11) (List.forall_mem_cons.mpr ⟨p_cm50, List.forall_mem_cons.mpr ⟨p_cm51, fun _ h => absurd h List.not_mem_nil⟩⟩) (by decide +kernel)
/-- X7_steerOf -/
def cm53 : CT := (148, [.inr (.inl [123]), .inl (0, 23, none), .inl ((-2147483648), 2147483647, none)], [(some (.inl ((-2147483648), 2147483647, none)), [])])
theorem p_cm53 : CtP HM cm53 := ct_of (cts := [cm25, cm31, cm43]) (hds := [(8, [some (.inr (.inl [123])), some (.inl (0, 23, none)), some (.inl ((-2147483648), 2147483647, none)), some (.inl ((-1), 2, none)), some (.inl ((-2147483648), 2147483647, none)), some (.inl (0, 3, none)), none, none], 0, [(5, 1, 3)])]) (w := 4) (fuel := 53) (List.forall_mem_cons.mpr ⟨p_cm25, List.forall_mem_cons.mpr ⟨p_cm31, List.forall_mem_cons.mpr ⟨p_cm43, fun _ h => absurd h List.not_mem_nil⟩⟩⟩) (by decide +kernel)
/-- X7_steer -/
def cm54 : CT := (149, [.inr (.inl [123]), .inl ((-2147483648), 2147483647, none), .inl ((-2147483648), 2147483647, none)], [(some (.inl ((-2147483648), 2147483647, none)), [])])
theorem p_cm54 : CtP HM cm54 := ct_of (cts := [cm17, cm21, cm53]) (hds := []) (w := 0) (fuel := 15) (List.forall_mem_cons.mpr ⟨p_cm17, List.forall_mem_cons.mpr ⟨p_cm21, List.forall_mem_cons.mpr ⟨p_cm53, fun _ h => absurd h List.not_mem_nil⟩⟩⟩) (by decide +kernel)
/-- X7_strokeOf -/
def cm55 : CT := (150, [.inr (.inl [123]), .inl (0, 23, none), .inl ((-2147483648), 2147483647, none)], [(some (.inl ((-2147483648), 2147483647, none)), [])])
theorem p_cm55 : CtP HM cm55 := ct_of (cts := [cm25, cm31]) (hds := [(8, [some (.inr (.inl [123])), some (.inl (0, 23, none)), some (.inl ((-2147483648), 2147483647, none)), some (.inl ((-1), 3, none)), some (.inl ((-2147483648), 2147483647, none)), some (.inl (0, 4, none))], 0, [(5, 1, 4)])]) (w := 5) (fuel := 45) (List.forall_mem_cons.mpr ⟨p_cm25, List.forall_mem_cons.mpr ⟨p_cm31, fun _ h => absurd h List.not_mem_nil⟩⟩) (by decide +kernel)
/-- X7_stroke -/
def cm56 : CT := (151, [.inr (.inl [123]), .inl ((-2147483648), 2147483647, none), .inl ((-2147483648), 2147483647, none)], [(some (.inl ((-2147483648), 2147483647, none)), [])])
theorem p_cm56 : CtP HM cm56 := ct_of (cts := [cm17, cm21, cm55]) (hds := []) (w := 0) (fuel := 15) (List.forall_mem_cons.mpr ⟨p_cm17, List.forall_mem_cons.mpr ⟨p_cm21, List.forall_mem_cons.mpr ⟨p_cm55, fun _ h => absurd h List.not_mem_nil⟩⟩⟩) (by decide +kernel)
/-- X7_in -/
def cm57 : CT := (92, [.inl ((-2147483648), 2147483647, none), .inl ((-1), (-1), none), .inl (1, 1, none)], [(some (.inl (1, 1, none)), [(0, (-1), 1)]), (some (.inl (0, 0, none)), [])])
theorem p_cm57 : CtP HM cm57 := ct_of (cts := []) (hds := []) (w := 0) (fuel := 12) (fun _ h => absurd h List.not_mem_nil) (by decide +kernel)
/-- X7_isSpared -/
def cm58 : CT := (152, [.inr (.inl [123]), .inl ((-2147483648), 2147483647, none)], [(some (.inl (1, 1, none)), []), (some (.inl (0, 0, none)), [])])
theorem p_cm58 : CtP HM cm58 := ct_of (cts := [cm31]) (hds := []) (w := 0) (fuel := 14) (List.forall_mem_cons.mpr ⟨p_cm31, fun _ h => absurd h List.not_mem_nil⟩) (by decide +kernel)
/-- X7_spareBy -/
def cm59 : CT := (153, [.inr (.inl [123])], [(some (.inl ((-1), 2, none)), [])])
theorem p_cm59 : CtP HM cm59 := ct_of (cts := [cm25, cm58]) (hds := [(10, [some (.inr (.inl [123])), some (.inl (0, 8, none)), none], 81, [(1, 1, 8)]), (31, [some (.inr (.inl [123])), some (.inl (0, 8, none)), none], 8, [(1, 9, 8)]), (39, [some (.inr (.inl [123])), some (.inl (0, 7, none)), some (.inl (1, 8, none))], 0, [(1, 9, 8), (2, 1, 8)])]) (w := 90) (fuel := 73) (List.forall_mem_cons.mpr ⟨p_cm25, List.forall_mem_cons.mpr ⟨p_cm58, fun _ h => absurd h List.not_mem_nil⟩⟩) (by decide +kernel)
/-- X7_ofRow -/
def cm60 : CT := (154, [.inr (.inl [123]), .inl ((-2147483648), 2147483647, none), .inl ((-1), 1, none)], [(some (.inl ((-2147483648), 2147483647, none)), [])])
theorem p_cm60 : CtP HM cm60 := ct_of (cts := []) (hds := []) (w := 0) (fuel := 17) (fun _ h => absurd h List.not_mem_nil) (by decide +kernel)
/-- X7_spare -/
def cm61 : CT := (155, [.inr (.inl [123]), .inl ((-2147483648), 2147483647, none)], [(some (.inl ((-2147483648), 2147483647, none)), [])])
theorem p_cm61 : CtP HM cm61 := ct_of (cts := [cm57, cm59, cm60]) (hds := []) (w := 0) (fuel := 15) (List.forall_mem_cons.mpr ⟨p_cm57, List.forall_mem_cons.mpr ⟨p_cm59, List.forall_mem_cons.mpr ⟨p_cm60, fun _ h => absurd h List.not_mem_nil⟩⟩⟩) (by decide +kernel)
/-- X7_isSeen -/
def cm62 : CT := (158, [.inr (.inl [123])], [(some (.inl (0, 1, none)), [])])
theorem p_cm62 : CtP HM cm62 := ct_of (cts := [cm31]) (hds := [(6, [some (.inr (.inl [123])), some (.inl (0, 1, none)), some (.inl (0, 8, none))], 0, [(2, 1, 8)])]) (w := 9) (fuel := 34) (List.forall_mem_cons.mpr ⟨p_cm31, fun _ h => absurd h List.not_mem_nil⟩) (by decide +kernel)
/-- X7_neverNow -/
def cm63 : CT := (159, [.inr (.inl [123])], [(some (.inl ((-2147483648), 2147483647, none)), [])])
theorem p_cm63 : CtP HM cm63 := ct_of (cts := [cm25, cm62]) (hds := [(6, [some (.inr (.inl [123])), some (.inl ((-2147483648), 2147483647, none)), some (.inl (0, 8, none))], 0, [(2, 1, 8)])]) (w := 9) (fuel := 32) (List.forall_mem_cons.mpr ⟨p_cm25, List.forall_mem_cons.mpr ⟨p_cm62, fun _ h => absurd h List.not_mem_nil⟩⟩) (by decide +kernel)
/-- X7_never -/
def cm64 : CT := (160, [.inr (.inl [123])], [(some (.inl ((-2147483648), 2147483647, none)), [])])
theorem p_cm64 : CtP HM cm64 := ct_of (cts := [cm63]) (hds := []) (w := 0) (fuel := 5) (List.forall_mem_cons.mpr ⟨p_cm63, fun _ h => absurd h List.not_mem_nil⟩) (by decide +kernel)
/-- X7_powersBy -/
def cm65 : CT := (161, [.inr (.inl [123]), .inl (0, 7, none)], [(some (.inl ((-2147483648), 2147483647, none)), [])])
theorem p_cm65 : CtP HM cm65 := ct_of (cts := [cm25, cm62]) (hds := [(11, [some (.inr (.inl [123])), some (.inl (0, 7, none)), some (.inl ((-2147483648), 2147483647, none)), some (.inl ((-2147483648), 2147483647, none)), some (.inl (1, 10, none)), none], 25, [(4, 26, 10)]), (32, [some (.inr (.inl [123])), some (.inl (0, 7, none)), some (.inl ((-2147483648), 2147483647, none)), some (.inl ((-2147483648), 2147483647, none)), some (.inl (1, 9, none)), some (.inl (0, 24, none))], 0, [(4, 26, 10), (5, 1, 24)])]) (w := 260) (fuel := 60) (List.forall_mem_cons.mpr ⟨p_cm25, List.forall_mem_cons.mpr ⟨p_cm62, fun _ h => absurd h List.not_mem_nil⟩⟩) (by decide +kernel)
/-- X7_sortsBy -/
def cm66 : CT := (162, [.inr (.inl [123]), .inl (0, 7, none)], [(some (.inl ((-2147483648), 2147483647, none)), [])])
theorem p_cm66 : CtP HM cm66 := ct_of (cts := [cm25, cm62]) (hds := [(11, [some (.inr (.inl [123])), some (.inl (0, 7, none)), some (.inl ((-2147483648), 2147483647, none)), some (.inl ((-2147483648), 2147483647, none)), some (.inl (0, 3, none))], 0, [(4, 1, 3)])]) (w := 4) (fuel := 41) (List.forall_mem_cons.mpr ⟨p_cm25, List.forall_mem_cons.mpr ⟨p_cm62, fun _ h => absurd h List.not_mem_nil⟩⟩) (by decide +kernel)
/-- X7_was -/
def cm67 : CT := (163, [.inr (.inl [123]), .inl ((-2147483648), 2147483647, none), .inl ((-2147483648), 2147483647, none)], [(some (.inl ((-2147483648), 2147483647, none)), [])])
theorem p_cm67 : CtP HM cm67 := ct_of (cts := [cm15, cm17, cm65, cm66]) (hds := []) (w := 0) (fuel := 21) (List.forall_mem_cons.mpr ⟨p_cm15, List.forall_mem_cons.mpr ⟨p_cm17, List.forall_mem_cons.mpr ⟨p_cm65, List.forall_mem_cons.mpr ⟨p_cm66, fun _ h => absurd h List.not_mem_nil⟩⟩⟩⟩) (by decide +kernel)
/-- X7_askOf -/
def cm68 : CT := (164, [.inr (.inl [123]), .inl (0, 7, none)], [(some (.inl ((-1), 23, none)), [])])
theorem p_cm68 : CtP HM cm68 := ct_of (cts := [cm26, cm65]) (hds := [(10, [some (.inr (.inl [123])), some (.inl (0, 7, none)), some (.inl ((-2147483648), 2147483647, none)), some (.inl ((-1), 23, none)), some (.inl (0, 2147483647, none)), some (.inl (0, 24, none)), none, none, none, none], 200, [(5, 511, 24)]), (17, [some (.inr (.inl [123])), some (.inl (0, 7, none)), some (.inl ((-2147483648), 2147483647, none)), some (.inl ((-1), 23, none)), some (.inl (0, 2147483647, none)), some (.inl (0, 23, none)), some (.inl (0, 2147483647, none)), some (.inl (1, 10, none)), none, none], 10, [(5, 511, 24), (7, 21, 10)]), (24, [some (.inr (.inl [123])), some (.inl (0, 7, none)), some (.inl ((-2147483648), 2147483647, none)), some (.inl ((-1), 23, none)), some (.inl (0, 2147483647, none)), some (.inl (0, 23, none)), some (.inl (0, 2147483647, none)), some (.inl (1, 9, none)), some (.inl ((-2147483648), 2147483647, none)), some (.inl (1, 10, none))], 0, [(5, 511, 24), (7, 21, 10), (9, 1, 10)])]) (w := 12465) (fuel := 97) (List.forall_mem_cons.mpr ⟨p_cm26, List.forall_mem_cons.mpr ⟨p_cm65, fun _ h => absurd h List.not_mem_nil⟩⟩) (by decide +kernel)
/-- X7_ask -/
def cm69 : CT := (165, [.inr (.inl [123]), .inl ((-2147483648), 2147483647, none)], [(some (.inl ((-2), 23, none)), [])])
theorem p_cm69 : CtP HM cm69 := ct_of (cts := [cm15, cm68]) (hds := []) (w := 0) (fuel := 12) (List.forall_mem_cons.mpr ⟨p_cm15, List.forall_mem_cons.mpr ⟨p_cm68, fun _ h => absurd h List.not_mem_nil⟩⟩) (by decide +kernel)
/-- X7_in -/
def cm70 : CT := (92, [.inl ((-2147483648), 2147483647, none), .inl (0, 0, none), .inl (16, 16, none)], [(some (.inl (1, 1, none)), [(0, 0, 16)]), (some (.inl (0, 0, none)), [])])
theorem p_cm70 : CtP HM cm70 := ct_of (cts := []) (hds := []) (w := 0) (fuel := 12) (fun _ h => absurd h List.not_mem_nil) (by decide +kernel)
/-- X7_no -/
def cm71 : CT := (94, [.inl ((-2147483648), 2147483647, none)], [(some (.inr (.inr 0)), [])])
theorem p_cm71 : CtP HM cm71 := ct_of (cts := []) (hds := []) (w := 0) (fuel := 7) (fun _ h => absurd h List.not_mem_nil) (by decide +kernel)
/-- X7_in -/
def cm72 : CT := (92, [.inl ((-2147483648), 2147483647, none), .inl (0, 0, none), .inl ((-2147483648), 2147483647, none)], [(some (.inl (1, 1, none)), [(0, 0, 2147483647), (2, 0, 2147483647)]), (some (.inl (0, 0, none)), [])])
theorem p_cm72 : CtP HM cm72 := ct_of (cts := []) (hds := []) (w := 0) (fuel := 12) (fun _ h => absurd h List.not_mem_nil) (by decide +kernel)
/-- X7_chanceOf -/
def cm73 : CT := (166, [.inr (.inl [123]), .inl ((-2147483648), 2147483647, none), .inl ((-2147483648), 2147483647, none), .inl ((-2147483648), 2147483647, none)], [(some (.inr (.inr 0)), [])])
theorem p_cm73 : CtP HM cm73 := ct_of (cts := [ct_low, cm25, cm26, cm31, cm72]) (hds := [(6, [some (.inr (.inl [123])), some (.inl ((-2147483648), 2147483647, none)), some (.inl ((-2147483648), 2147483647, none)), some (.inl ((-2147483648), 2147483647, none)), some (.inr (.inr 0)), none, some (.inl (0, 256, none)), none, none, none], 9, [(6, 28, 256)]), (16, [some (.inr (.inl [123])), some (.inl ((-2147483648), 2147483647, none)), some (.inl ((-2147483648), 2147483647, none)), some (.inl ((-2147483648), 2147483647, none)), some (.inr (.inr 0)), none, some (.inl (0, 255, none)), some (.inr (.inr 0)), none, some (.inl (0, 8, none))], 0, [(6, 28, 256), (9, 1, 8)])]) (w := 7178) (fuel := 71) (List.forall_mem_cons.mpr ⟨p_low HM, List.forall_mem_cons.mpr ⟨p_cm25, List.forall_mem_cons.mpr ⟨p_cm26, List.forall_mem_cons.mpr ⟨p_cm31, List.forall_mem_cons.mpr ⟨p_cm72, fun _ h => absurd h List.not_mem_nil⟩⟩⟩⟩⟩) (by decide +kernel)
/-- X7_chance -/
def cm74 : CT := (167, [.inr (.inl [123]), .inl ((-2147483648), 2147483647, none), .inl ((-2147483648), 2147483647, none), .inl ((-2147483648), 2147483647, none)], [(some (.inr (.inr 0)), [])])
theorem p_cm74 : CtP HM cm74 := ct_of (cts := [cm17, cm21, cm70, cm71, cm73]) (hds := []) (w := 0) (fuel := 22) (List.forall_mem_cons.mpr ⟨p_cm17, List.forall_mem_cons.mpr ⟨p_cm21, List.forall_mem_cons.mpr ⟨p_cm70, List.forall_mem_cons.mpr ⟨p_cm71, List.forall_mem_cons.mpr ⟨p_cm73, fun _ h => absurd h List.not_mem_nil⟩⟩⟩⟩⟩) (by decide +kernel)
/-- X7_in -/
def cm75 : CT := (92, [.inl ((-2147483648), 2147483647, none), .inl (0, 0, none), .inl (24, 24, none)], [(some (.inl (1, 1, none)), [(0, 0, 24)]), (some (.inl (0, 0, none)), [])])
theorem p_cm75 : CtP HM cm75 := ct_of (cts := []) (hds := []) (w := 0) (fuel := 12) (fun _ h => absurd h List.not_mem_nil) (by decide +kernel)
/-- X7_yearsOf -/
def cm76 : CT := (168, [.inr (.inl [123]), .inl ((-2147483648), 2147483647, none), .inl ((-2147483648), 2147483647, none), .inl ((-2147483648), 2147483647, none)], [(some (.inl ((-2147483648), 2147483647, none)), [])])
theorem p_cm76 : CtP HM cm76 := ct_of (cts := [cm25, cm31]) (hds := [(6, [some (.inr (.inl [123])), some (.inl ((-2147483648), 2147483647, none)), some (.inl ((-2147483648), 2147483647, none)), some (.inl ((-2147483648), 2147483647, none)), some (.inl ((-2147483648), 2147483647, none)), some (.inl (0, 24, none))], 0, [(5, 1, 24)])]) (w := 25) (fuel := 48) (List.forall_mem_cons.mpr ⟨p_cm25, List.forall_mem_cons.mpr ⟨p_cm31, fun _ h => absurd h List.not_mem_nil⟩⟩) (by decide +kernel)
/-- X7_years -/
def cm77 : CT := (169, [.inr (.inl [123]), .inl ((-2147483648), 2147483647, none), .inl ((-2147483648), 2147483647, none), .inl ((-2147483648), 2147483647, none)], [(some (.inl ((-2147483648), 2147483647, none)), [])])
theorem p_cm77 : CtP HM cm77 := ct_of (cts := [cm17, cm75, cm76]) (hds := []) (w := 0) (fuel := 18) (List.forall_mem_cons.mpr ⟨p_cm17, List.forall_mem_cons.mpr ⟨p_cm75, List.forall_mem_cons.mpr ⟨p_cm76, fun _ h => absurd h List.not_mem_nil⟩⟩⟩) (by decide +kernel)
/-- X7_tellOf -/
def cm78 : CT := (180, [.inr (.inl [123]), .inl ((-2147483648), 2147483647, none)], [(some (.inl ((-2147483648), 2147483647, none)), [])])
theorem p_cm78 : CtP HM cm78 := ct_of (cts := [cm13]) (hds := []) (w := 0) (fuel := 18) (List.forall_mem_cons.mpr ⟨p_cm13, fun _ h => absurd h List.not_mem_nil⟩) (by decide +kernel)
/-- X7_count -/
def cm79 : CT := (181, [.inr (.inl [123]), .inl ((-2147483648), 2147483647, none)], [(some (.inl ((-2147483648), 2147483647, none)), [])])
theorem p_cm79 : CtP HM cm79 := ct_of (cts := [cm78]) (hds := []) (w := 0) (fuel := 40) (List.forall_mem_cons.mpr ⟨p_cm78, fun _ h => absurd h List.not_mem_nil⟩) (by decide +kernel)
/-- X7_minuteDigest -/
def cm80 : CT := (182, [.inr (.inl [123]), .inr (.inr 0), .inl (0, 23, none)], [(some (.inr (.inr 0)), [])])
theorem p_cm80 : CtP HM cm80 := ct_of (cts := [cm22, cm33]) (hds := [(22, [some (.inr (.inl [123])), some (.inr (.inr 0)), none, some (.inl (0, 23, none)), some (.inr (.inr 0)), none, some (.inl (0, 5, none))], 0, [(6, 1, 5)])]) (w := 6) (fuel := 41) (List.forall_mem_cons.mpr ⟨p_cm22, List.forall_mem_cons.mpr ⟨p_cm33, fun _ h => absurd h List.not_mem_nil⟩⟩) (by decide +kernel)
/-- X7_rowerDigest -/
def cm81 : CT := (183, [.inr (.inl [123]), .inr (.inr 0), .inl (0, 7, none)], [(some (.inr (.inr 0)), [])])
theorem p_cm81 : CtP HM cm81 := ct_of (cts := [cm18, cm35, cm37, cm65, cm66, cm68]) (hds := []) (w := 0) (fuel := 99) (List.forall_mem_cons.mpr ⟨p_cm18, List.forall_mem_cons.mpr ⟨p_cm35, List.forall_mem_cons.mpr ⟨p_cm37, List.forall_mem_cons.mpr ⟨p_cm65, List.forall_mem_cons.mpr ⟨p_cm66, List.forall_mem_cons.mpr ⟨p_cm68, fun _ h => absurd h List.not_mem_nil⟩⟩⟩⟩⟩⟩) (by decide +kernel)
/-- X7_planDigest -/
def cm82 : CT := (184, [.inr (.inl [123]), .inr (.inr 0), .inl (0, 23, none)], [(some (.inr (.inr 0)), [])])
theorem p_cm82 : CtP HM cm82 := ct_of (cts := [cm53, cm55, cm73]) (hds := []) (w := 0) (fuel := 62) (List.forall_mem_cons.mpr ⟨p_cm53, List.forall_mem_cons.mpr ⟨p_cm55, List.forall_mem_cons.mpr ⟨p_cm73, fun _ h => absurd h List.not_mem_nil⟩⟩⟩) (by decide +kernel)
/-- X7_digest -/
def cm83 : CT := (185, [.inr (.inl [123])], [(some (.inr (.inr 0)), [])])
theorem p_cm83 : CtP HM cm83 := ct_of (cts := [cm11, cm39, cm41, cm44, cm46, cm48, cm51, cm59, cm60, cm63, cm76, cm79, cm80, cm81, cm82]) (hds := [(4, [some (.inr (.inl [123])), some (.inr (.inr 0)), none, some (.inl (0, 8, none))], 42, [(3, 1, 8)]), (20, [some (.inr (.inl [123])), some (.inr (.inr 0)), none, some (.inl (0, 3, none))], 38, [(3, 1, 3)]), (36, [some (.inr (.inl [123])), some (.inr (.inr 0)), none, some (.inl (0, 24, none))], 13, [(3, 1, 24)]), (48, [some (.inr (.inl [123])), some (.inr (.inr 0)), none, some (.inl (0, 8, none))], 4, [(3, 1, 8)]), (131, [some (.inr (.inl [123])), some (.inr (.inr 0)), none, some (.inl (0, 3, none))], 0, [(3, 1, 3)])]) (w := 51) (fuel := 197) (List.forall_mem_cons.mpr ⟨p_cm11, List.forall_mem_cons.mpr ⟨p_cm39, List.forall_mem_cons.mpr ⟨p_cm41, List.forall_mem_cons.mpr ⟨p_cm44, List.forall_mem_cons.mpr ⟨p_cm46, List.forall_mem_cons.mpr ⟨p_cm48, List.forall_mem_cons.mpr ⟨p_cm51, List.forall_mem_cons.mpr ⟨p_cm59, List.forall_mem_cons.mpr ⟨p_cm60, List.forall_mem_cons.mpr ⟨p_cm63, List.forall_mem_cons.mpr ⟨p_cm76, List.forall_mem_cons.mpr ⟨p_cm79, List.forall_mem_cons.mpr ⟨p_cm80, List.forall_mem_cons.mpr ⟨p_cm81, List.forall_mem_cons.mpr ⟨p_cm82, fun _ h => absurd h List.not_mem_nil⟩⟩⟩⟩⟩⟩⟩⟩⟩⟩⟩⟩⟩⟩⟩) (by decide +kernel)
