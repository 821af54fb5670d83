/-! the class: river, forget, sheet, lose, put, get, write, retell: the texts stay as they are (printed by wip/p1/setters.py) -/
def HCs : AH := [.inr (.inr (6, [.inl 1, .inl 2, .inl 6, .inl 9, .inr ((-2147483648), 2147483647, false), .inl 10, .inl 15, .inl 53, .inl 58, .inl 96, .inl 97, .inl 108, .inr (0, 1, false), .inr (0, 1, false)])), .inr (.inl (2, [109, 111, 113])), .inr (.inr (1, [.inl 3, .inl 4, .inl 5, .inr (0, 8, false)])), .inl (0, 8, (-2147483648), 2147483647, false), .inl (0, 8, 0, 23, false), .inl (0, 8, (-2147483648), 2147483647, false), .inr (.inr (2, [.inl 7, .inl 8, .inr (0, 8, false)])), .inl (0, 8, 0, 23, false), .inl (0, 8, (-2147483648), 2147483647, false), .inr (.inl (3, [115, 117, 119, 121])), .inr (.inr (0, [.inr (0, 8, false), .inl 11, .inl 12, .inl 13, .inl 14, .inr ((-2147483648), 2147483647, false), .inr ((-2147483648), 2147483647, false)])), .inl (0, 8, (-2147483648), 2147483647, false), .inl (0, 8, (-2147483648), 2147483647, false), .inl (0, 24, (-2147483648), 2147483647, false), .inl (0, 24, (-2147483648), 2147483647, false), .inr (.inr (5, [.inl 16, .inl 17, .inl 18, .inl 19, .inl 20, .inl 21, .inl 46, .inl 47, .inr ((-2147483648), 2147483647, false), .inl 48, .inl 49, .inl 50, .inl 51, .inl 52])), .inl (0, 24, (-2147483648), 2147483647, false), .inl (0, 24, 0, 20, false), .inl (0, 24, (-2147483648), 2147483647, false), .inl (0, 24, (-2147483648), 2147483647, false), .inl (0, 24, (-2147483648), 2147483647, false), .inr (.inl (4, [22, 23, 24, 25, 26, 27, 28, 29, 30, 31, 32, 33, 34, 35, 36, 37, 38, 39, 40, 41, 42, 43, 44, 45])), .inl (0, 8, (-2147483648), 2147483647, false), .inl (0, 8, (-2147483648), 2147483647, false), .inl (0, 8, (-2147483648), 2147483647, false), .inl (0, 8, (-2147483648), 2147483647, false), .inl (0, 8, (-2147483648), 2147483647, false), .inl (0, 8, (-2147483648), 2147483647, false), .inl (0, 8, (-2147483648), 2147483647, false), .inl (0, 8, (-2147483648), 2147483647, false), .inl (0, 8, (-2147483648), 2147483647, false), .inl (0, 8, (-2147483648), 2147483647, false), .inl (0, 8, (-2147483648), 2147483647, false), .inl (0, 8, (-2147483648), 2147483647, false), .inl (0, 8, (-2147483648), 2147483647, false), .inl (0, 8, (-2147483648), 2147483647, false), .inl (0, 8, (-2147483648), 2147483647, false), .inl (0, 8, (-2147483648), 2147483647, false), .inl (0, 8, (-2147483648), 2147483647, false), .inl (0, 8, (-2147483648), 2147483647, false), .inl (0, 8, (-2147483648), 2147483647, false), .inl (0, 8, (-2147483648), 2147483647, false), .inl (0, 8, (-2147483648), 2147483647, false), .inl (0, 8, (-2147483648), 2147483647, false), .inl (0, 8, (-2147483648), 2147483647, false), .inl (0, 8, (-2147483648), 2147483647, false), .inl (0, 8, (-2147483648), 2147483647, false), .inl (0, 8, (-2147483648), 2147483647, false), .inl (0, 8, (-2147483648), 2147483647, false), .inl (0, 8, (-2147483648), 2147483647, false), .inl (0, 24, (-2147483648), 2147483647, false), .inl (0, 24, (-2147483648), 2147483647, false), .inl (0, 24, (-2147483648), 2147483647, false), .inr (.inr (0, [.inr (0, 8, false), .inl 54, .inl 55, .inl 56, .inl 57, .inr ((-2147483648), 2147483647, false), .inr ((-2147483648), 2147483647, false)])), .inl (0, 8, (-2147483648), 2147483647, false), .inl (0, 8, (-2147483648), 2147483647, false), .inl (0, 24, (-2147483648), 2147483647, false), .inl (0, 24, (-2147483648), 2147483647, false), .inr (.inr (5, [.inl 59, .inl 60, .inl 61, .inl 62, .inl 63, .inl 64, .inl 89, .inl 90, .inr ((-2147483648), 2147483647, false), .inl 91, .inl 92, .inl 93, .inl 94, .inl 95])), .inl (0, 24, (-2147483648), 2147483647, false), .inl (0, 24, 0, 20, false), .inl (0, 24, (-2147483648), 2147483647, false), .inl (0, 24, (-2147483648), 2147483647, false), .inl (0, 24, (-2147483648), 2147483647, false), .inr (.inl (4, [65, 66, 67, 68, 69, 70, 71, 72, 73, 74, 75, 76, 77, 78, 79, 80, 81, 82, 83, 84, 85, 86, 87, 88])), .inl (0, 8, (-2147483648), 2147483647, false), .inl (0, 8, (-2147483648), 2147483647, false), .inl (0, 8, (-2147483648), 2147483647, false), .inl (0, 8, (-2147483648), 2147483647, false), .inl (0, 8, (-2147483648), 2147483647, false), .inl (0, 8, (-2147483648), 2147483647, false), .inl (0, 8, (-2147483648), 2147483647, false), .inl (0, 8, (-2147483648), 2147483647, false), .inl (0, 8, (-2147483648), 2147483647, false), .inl (0, 8, (-2147483648), 2147483647, false), .inl (0, 8, (-2147483648), 2147483647, false), .inl (0, 8, (-2147483648), 2147483647, false), .inl (0, 8, (-2147483648), 2147483647, false), .inl (0, 8, (-2147483648), 2147483647, false), .inl (0, 8, (-2147483648), 2147483647, false), .inl (0, 8, (-2147483648), 2147483647, false), .inl (0, 8, (-2147483648), 2147483647, false), .inl (0, 8, (-2147483648), 2147483647, false), .inl (0, 8, (-2147483648), 2147483647, false), .inl (0, 8, (-2147483648), 2147483647, false), .inl (0, 8, (-2147483648), 2147483647, false), .inl (0, 8, (-2147483648), 2147483647, false), .inl (0, 8, (-2147483648), 2147483647, false), .inl (0, 8, (-2147483648), 2147483647, false), .inl (0, 8, (-2147483648), 2147483647, false), .inl (0, 8, (-2147483648), 2147483647, false), .inl (0, 8, (-2147483648), 2147483647, false), .inl (0, 8, (-2147483648), 2147483647, false), .inl (0, 24, (-2147483648), 2147483647, false), .inl (0, 24, (-2147483648), 2147483647, false), .inl (0, 24, (-2147483648), 2147483647, false), .inl (0, 256, (-2147483648), 2147483647, false), .inr (.inl (4, [98, 99, 100, 101, 102, 103, 104, 105, 106, 107])), .inl (0, 24, 0, 20, false), .inl (0, 24, 0, 20, false), .inl (0, 24, 0, 20, false), .inl (0, 24, 0, 20, false), .inl (0, 24, 0, 20, false), .inl (0, 24, 0, 20, false), .inl (0, 24, 0, 20, false), .inl (0, 24, 0, 20, false), .inl (0, 24, 0, 20, false), .inl (0, 24, 0, 20, false), .inl (0, 21, (-2147483648), 2147483647, false), .inr (.inr (4, [.inl 110, .inr (0, 23, true)])), .inl (0, 23, (-2147483648), 2147483647, true), .inr (.inr (4, [.inl 112, .inr (0, 24, true)])), .inl (0, 24, (-2147483648), 2147483647, true), .inr (.inr (4, [.inl 114, .inr (0, 24, true)])), .inl (0, 24, (-2147483648), 2147483647, true), .inr (.inr (3, [.inl 116, .inr (0, 1, false), .inr ((-2147483648), 2147483647, false), .inr (0, 60, false)])), .inl (0, 60, (-2147483648), 2147483647, false), .inr (.inr (3, [.inl 118, .inr (0, 1, false), .inr ((-2147483648), 2147483647, false), .inr (0, 60, false)])), .inl (0, 60, (-2147483648), 2147483647, false), .inr (.inr (3, [.inl 120, .inr (0, 1, false), .inr ((-2147483648), 2147483647, false), .inr (0, 60, false)])), .inl (0, 60, (-2147483648), 2147483647, false), .inr (.inr (3, [.inl 122, .inr (0, 1, false), .inr ((-2147483648), 2147483647, false), .inr (0, 60, false)])), .inl (0, 60, (-2147483648), 2147483647, false), .inr (.inl (99, [])), .inr (.inl (99, [])), .inr (.inl (99, [])), .inr (.inl (99, [])), .inr (.inl (99, [])), .inr (.inl (99, [])), .inr (.inl (99, [])), .inr (.inl (99, [])), .inr (.inl (99, [])), .inr (.inl (99, [])), .inr (.inl (99, [])), .inr (.inl (99, [])), .inr (.inl (99, [])), .inr (.inl (99, [])), .inr (.inl (99, [])), .inr (.inl (99, [])), .inr (.inl (99, [])), .inr (.inl (99, [])), .inr (.inl (99, [])), .inr (.inl (99, [])), .inr (.inl (99, [])), .inr (.inl (99, [])), .inr (.inl (99, [])), .inr (.inl (99, [])), .inr (.inl (99, [])), .inr (.inl (99, [])), .inr (.inl (99, [])), .inr (.inl (99, [])), .inr (.inl (99, [])), .inr (.inl (99, []))]
/-- X4_fitsCrew -/
def sc0 : CT := (17, [.inl ((-2147483648), 2147483647, none), .inl ((-2147483648), 2147483647, none)], [(some (.inl (1, 1, none)), [(1, 49, 115)]), (some (.inl (0, 0, none)), [])])
theorem p_sc0 : CtP HCs sc0 := ct_of (cts := []) (hds := []) (w := 0) (fuel := 37) (fun _ h => absurd h List.not_mem_nil) (by decide +kernel)
/-- X4_crewFault -/
def sc1 : CT := (16, [.inr (.inl [109])], [(some (.inl ((-1), 23, none)), [])])
theorem p_sc1 : CtP HCs sc1 := ct_of (cts := [sc0]) (hds := [(2, [some (.inr (.inl [109])), some (.inl (0, 23, none))], 0, [(1, 1, 23)])]) (w := 24) (fuel := 35) (List.forall_mem_cons.mpr ⟨p_sc0, fun _ h => absurd h List.not_mem_nil⟩) (by decide +kernel)
/-- X0_takeCrew -/
def sc2 : CT := (2, [.inr (.inl [10]), .inr (.inl [109])], [(none, [])])
theorem p_sc2 : CtP HCs sc2 := ct_of (cts := [sc1]) (hds := [(16, [some (.inr (.inl [10])), some (.inr (.inl [109])), some (.inl (0, 8, none)), none], 0, [(2, 1, 8)])]) (w := 9) (fuel := 61) (List.forall_mem_cons.mpr ⟨p_sc1, fun _ h => absurd h List.not_mem_nil⟩) (by decide +kernel)
/-- X6_markChanged -/
def sc3 : CT := (86, [.inr (.inl [0])], [(none, [])])
theorem p_sc3 : CtP HCs sc3 := ct_of (cts := []) (hds := []) (w := 0) (fuel := 9) (fun _ h => absurd h List.not_mem_nil) (by decide +kernel)
/-- X4_signFault -/
def sc4 : CT := (18, [.inr (.inl [111]), .inl ((-2147483648), 2147483647, none)], [(some (.inl ((-1), 23, none)), [])])
theorem p_sc4 : CtP HCs sc4 := ct_of (cts := []) (hds := [(2, [some (.inr (.inl [111])), some (.inl ((-2147483648), 2147483647, none)), some (.inl (0, 24, none)), none, none], 0, [(2, 1, 24)])]) (w := 25) (fuel := 46) (fun _ h => absurd h List.not_mem_nil) (by decide +kernel)
/-- X0_takeRates -/
def sc5 : CT := (3, [.inr (.inl [10]), .inr (.inl [111])], [(none, [])])
theorem p_sc5 : CtP HCs sc5 := ct_of (cts := [sc4]) (hds := [(12, [some (.inr (.inl [10])), some (.inr (.inl [111])), some (.inl (0, 24, none)), some (.inl (0, 24, none))], 0, [(3, 1, 24)])]) (w := 25) (fuel := 35) (List.forall_mem_cons.mpr ⟨p_sc4, fun _ h => absurd h List.not_mem_nil⟩) (by decide +kernel)
/-- X4_signFault -/
def sc6 : CT := (18, [.inr (.inl [113]), .inl ((-2147483648), 2147483647, none)], [(some (.inl ((-1), 23, none)), [])])
theorem p_sc6 : CtP HCs sc6 := ct_of (cts := []) (hds := [(2, [some (.inr (.inl [113])), some (.inl ((-2147483648), 2147483647, none)), some (.inl (0, 24, none)), none, none], 0, [(2, 1, 24)])]) (w := 25) (fuel := 46) (fun _ h => absurd h List.not_mem_nil) (by decide +kernel)
/-- X0_takeRudder -/
def sc7 : CT := (4, [.inr (.inl [10]), .inr (.inl [113])], [(none, [])])
theorem p_sc7 : CtP HCs sc7 := ct_of (cts := [sc6]) (hds := [(12, [some (.inr (.inl [10])), some (.inr (.inl [113])), some (.inl (0, 24, none)), some (.inl (0, 24, none)), none], 0, [(3, 1, 24)])]) (w := 25) (fuel := 45) (List.forall_mem_cons.mpr ⟨p_sc6, fun _ h => absurd h List.not_mem_nil⟩) (by decide +kernel)
/-- X6_retell -/
def sc8 : CT := (87, [.inr (.inl [0]), .inl (0, 2, none)], [(none, [])])
theorem p_sc8 : CtP HCs sc8 := ct_of (cts := [sc2, sc3, sc5, sc7]) (hds := []) (w := 0) (fuel := 33) (List.forall_mem_cons.mpr ⟨p_sc2, List.forall_mem_cons.mpr ⟨p_sc3, List.forall_mem_cons.mpr ⟨p_sc5, List.forall_mem_cons.mpr ⟨p_sc7, fun _ h => absurd h List.not_mem_nil⟩⟩⟩⟩) (by decide +kernel)
/-- X6_isBelow -/
def sc9 : CT := (82, [.inl ((-2147483648), 2147483647, none), .inl (10, 10, none)], [(some (.inl (1, 1, none)), [(0, 0, 9)]), (some (.inl (0, 0, none)), [])])
theorem p_sc9 : CtP HCs sc9 := ct_of (cts := []) (hds := []) (w := 0) (fuel := 11) (fun _ h => absurd h List.not_mem_nil) (by decide +kernel)
/-- X6_tellStream -/
def sc10 : CT := (38, [.inr (.inl [0]), .inl ((-2147483648), 2147483647, none)], [(some (.inl ((-2147483648), 2147483647, none)), [])])
theorem p_sc10 : CtP HCs sc10 := ct_of (cts := [sc3, sc9]) (hds := []) (w := 0) (fuel := 20) (List.forall_mem_cons.mpr ⟨p_sc3, List.forall_mem_cons.mpr ⟨p_sc9, fun _ h => absurd h List.not_mem_nil⟩⟩) (by decide +kernel)
/-- X6_tellHome -/
def sc11 : CT := (39, [.inr (.inl [0]), .inl ((-2147483648), 2147483647, none)], [(some (.inl ((-2147483648), 2147483647, none)), [])])
theorem p_sc11 : CtP HCs sc11 := ct_of (cts := [sc3]) (hds := []) (w := 0) (fuel := 22) (List.forall_mem_cons.mpr ⟨p_sc3, fun _ h => absurd h List.not_mem_nil⟩) (by decide +kernel)
/-- X6_river -/
def sc12 : CT := (37, [.inr (.inl [0]), .inl ((-2147483648), 2147483647, none), .inl ((-2147483648), 2147483647, none)], [(some (.inl ((-2147483648), 2147483647, none)), [])])
theorem p_sc12 : CtP HCs sc12 := ct_of (cts := [sc10, sc11]) (hds := []) (w := 0) (fuel := 17) (List.forall_mem_cons.mpr ⟨p_sc10, List.forall_mem_cons.mpr ⟨p_sc11, fun _ h => absurd h List.not_mem_nil⟩⟩) (by decide +kernel)
/-- X6_forget -/
def sc13 : CT := (59, [.inr (.inl [0])], [(some (.inl (0, 8, none)), [])])
theorem p_sc13 : CtP HCs sc13 := ct_of (cts := []) (hds := []) (w := 0) (fuel := 12) (fun _ h => absurd h List.not_mem_nil) (by decide +kernel)
/-- X6_isBelow -/
def sc14 : CT := (82, [.inl ((-2147483648), 2147483647, none), .inl (4, 4, none)], [(some (.inl (1, 1, none)), [(0, 0, 3)]), (some (.inl (0, 0, none)), [])])
theorem p_sc14 : CtP HCs sc14 := ct_of (cts := []) (hds := []) (w := 0) (fuel := 11) (fun _ h => absurd h List.not_mem_nil) (by decide +kernel)
/-- X6_isBelow -/
def sc15 : CT := (82, [.inl ((-2147483648), 2147483647, none), .inl (3, 3, none)], [(some (.inl (1, 1, none)), [(0, 0, 2)]), (some (.inl (0, 0, none)), [])])
theorem p_sc15 : CtP HCs sc15 := ct_of (cts := []) (hds := []) (w := 0) (fuel := 11) (fun _ h => absurd h List.not_mem_nil) (by decide +kernel)
/-- X6_find -/
def sc16 : CT := (85, [.inr (.inl [0]), .inl ((-2147483648), 2147483647, none)], [(some (.inl ((-2147483648), 2147483647, none)), [])])
theorem p_sc16 : CtP HCs sc16 := ct_of (cts := []) (hds := []) (w := 0) (fuel := 9) (fun _ h => absurd h List.not_mem_nil) (by decide +kernel)
/-- J7_fill_53178 -/
def sc17 : CT := (187, [.inr (.inl [116, 118, 120, 122]), .inl ((-2147483648), 2147483647, none)], [(none, [])])
theorem p_sc17 : CtP HCs sc17 := ct_of (cts := []) (hds := [(5, [some (.inr (.inl [116, 118, 120, 122])), some (.inl ((-2147483648), 2147483647, none)), some (.inl (0, 60, none)), some (.inl (60, 60, none))], 0, [(2, 1, 60)])]) (w := 61) (fuel := 17) (fun _ h => absurd h List.not_mem_nil) (by decide +kernel)
/-- X3_begin -/
def sc18 : CT := (11, [.inr (.inl [115, 117, 119, 121]), .inl ((-2147483648), 2147483647, none), .inl (0, 60, none)], [(none, [])])
theorem p_sc18 : CtP HCs sc18 := ct_of (cts := [sc17]) (hds := []) (w := 0) (fuel := 16) (List.forall_mem_cons.mpr ⟨p_sc17, fun _ h => absurd h List.not_mem_nil⟩) (by decide +kernel)
/-- X6_sheet -/
def sc19 : CT := (70, [.inr (.inl [0]), .inl ((-2147483648), 2147483647, none), .inl ((-2147483648), 2147483647, none), .inl ((-2147483648), 2147483647, none)], [(some (.inl ((-2147483648), 2147483647, none)), [])])
theorem p_sc19 : CtP HCs sc19 := ct_of (cts := [sc14, sc15, sc16, sc18]) (hds := []) (w := 0) (fuel := 30) (List.forall_mem_cons.mpr ⟨p_sc14, List.forall_mem_cons.mpr ⟨p_sc15, List.forall_mem_cons.mpr ⟨p_sc16, List.forall_mem_cons.mpr ⟨p_sc18, fun _ h => absurd h List.not_mem_nil⟩⟩⟩⟩) (by decide +kernel)
/-- X6_lose -/
def sc20 : CT := (71, [.inr (.inl [0]), .inl ((-2147483648), 2147483647, none)], [(some (.inl ((-2147483648), 2147483647, none)), [])])
theorem p_sc20 : CtP HCs sc20 := ct_of (cts := [sc14, sc16]) (hds := []) (w := 0) (fuel := 30) (List.forall_mem_cons.mpr ⟨p_sc14, List.forall_mem_cons.mpr ⟨p_sc16, fun _ h => absurd h List.not_mem_nil⟩⟩) (by decide +kernel)
/-- X6_isBelow -/
def sc21 : CT := (82, [.inl ((-2147483648), 2147483647, none), .inl (0, 60, none)], [(some (.inl (1, 1, none)), [(0, 0, 59), (1, 1, 60)]), (some (.inl (0, 0, none)), [])])
theorem p_sc21 : CtP HCs sc21 := ct_of (cts := []) (hds := []) (w := 0) (fuel := 11) (fun _ h => absurd h List.not_mem_nil) (by decide +kernel)
/-- X3_findingOf -/
def sc22 : CT := (12, [.inr (.inl [115, 117, 119, 121]), .inl ((-2147483648), 2147483647, none), .inl ((-2147483648), 2147483647, none)], [(some (.inl (1, 1, none)), []), (some (.inl (3, 3, none)), []), (some (.inl (2, 2, none)), []), (some (.inl (0, 0, none)), [(2, 0, 59)])])
theorem p_sc22 : CtP HCs sc22 := ct_of (cts := [sc21]) (hds := []) (w := 0) (fuel := 22) (List.forall_mem_cons.mpr ⟨p_sc21, fun _ h => absurd h List.not_mem_nil⟩) (by decide +kernel)
/-- X3_keep -/
def sc23 : CT := (14, [.inr (.inl [115, 117, 119, 121]), .inl (0, 59, none), .inl ((-2147483648), 2147483647, none)], [(none, [])])
theorem p_sc23 : CtP HCs sc23 := ct_of (cts := []) (hds := []) (w := 0) (fuel := 21) (fun _ h => absurd h List.not_mem_nil) (by decide +kernel)
/-- X6_put -/
def sc24 : CT := (72, [.inr (.inl [0]), .inl ((-2147483648), 2147483647, none), .inl ((-2147483648), 2147483647, none), .inl ((-2147483648), 2147483647, none), .inl ((-2147483648), 2147483647, none)], [(some (.inl ((-2147483648), 2147483647, none)), [])])
theorem p_sc24 : CtP HCs sc24 := ct_of (cts := [sc14, sc15, sc16, sc22, sc23]) (hds := []) (w := 0) (fuel := 35) (List.forall_mem_cons.mpr ⟨p_sc14, List.forall_mem_cons.mpr ⟨p_sc15, List.forall_mem_cons.mpr ⟨p_sc16, List.forall_mem_cons.mpr ⟨p_sc22, List.forall_mem_cons.mpr ⟨p_sc23, fun _ h => absurd h List.not_mem_nil⟩⟩⟩⟩⟩) (by decide +kernel)
/-- X6_get -/
def sc25 : CT := (73, [.inr (.inl [0]), .inl ((-2147483648), 2147483647, none), .inl ((-2147483648), 2147483647, none), .inl ((-2147483648), 2147483647, none)], [(some (.inl ((-2147483648), 2147483647, none)), [])])
theorem p_sc25 : CtP HCs sc25 := ct_of (cts := [sc14, sc15, sc22]) (hds := []) (w := 0) (fuel := 35) (List.forall_mem_cons.mpr ⟨p_sc14, List.forall_mem_cons.mpr ⟨p_sc15, List.forall_mem_cons.mpr ⟨p_sc22, fun _ h => absurd h List.not_mem_nil⟩⟩⟩) (by decide +kernel)
/-- X6_isBelow -/
def sc26 : CT := (82, [.inl ((-2147483648), 2147483647, none), .inl (2, 2, none)], [(some (.inl (1, 1, none)), [(0, 0, 1)]), (some (.inl (0, 0, none)), [])])
theorem p_sc26 : CtP HCs sc26 := ct_of (cts := []) (hds := []) (w := 0) (fuel := 11) (fun _ h => absurd h List.not_mem_nil) (by decide +kernel)
/-- J7_fill_53178 -/
def sc27 : CT := (187, [.inr (.inl [50]), .inl ((-2147483648), 2147483647, none)], [(none, [])])
theorem p_sc27 : CtP HCs sc27 := ct_of (cts := []) (hds := [(5, [some (.inr (.inl [50])), some (.inl ((-2147483648), 2147483647, none)), some (.inl (0, 24, none)), some (.inl (24, 24, none))], 0, [(2, 1, 24)])]) (w := 25) (fuel := 17) (fun _ h => absurd h List.not_mem_nil) (by decide +kernel)
/-- J7_fill_53178 -/
def sc28 : CT := (187, [.inr (.inl [51]), .inl ((-2147483648), 2147483647, none)], [(none, [])])
theorem p_sc28 : CtP HCs sc28 := ct_of (cts := []) (hds := [(5, [some (.inr (.inl [51])), some (.inl ((-2147483648), 2147483647, none)), some (.inl (0, 24, none)), some (.inl (24, 24, none))], 0, [(2, 1, 24)])]) (w := 25) (fuel := 17) (fun _ h => absurd h List.not_mem_nil) (by decide +kernel)
/-- J7_fill_53178 -/
def sc29 : CT := (187, [.inr (.inl [52]), .inl ((-2147483648), 2147483647, none)], [(none, [])])
theorem p_sc29 : CtP HCs sc29 := ct_of (cts := []) (hds := [(5, [some (.inr (.inl [52])), some (.inl ((-2147483648), 2147483647, none)), some (.inl (0, 24, none)), some (.inl (24, 24, none))], 0, [(2, 1, 24)])]) (w := 25) (fuel := 17) (fun _ h => absurd h List.not_mem_nil) (by decide +kernel)
/-- X5_takeEvents -/
def sc30 : CT := (21, [.inr (.inl [15]), .inr (.inl [2]), .inl ((-2147483648), 2147483647, none)], [(none, [])])
theorem p_sc30 : CtP HCs sc30 := ct_of (cts := [sc27, sc28, sc29]) (hds := [(14, [some (.inr (.inl [15])), some (.inr (.inl [2])), some (.inl ((-2147483648), 2147483647, none)), some (.inl (0, 8, none)), none], 0, [(3, 1, 8)])]) (w := 9) (fuel := 87) (List.forall_mem_cons.mpr ⟨p_sc27, List.forall_mem_cons.mpr ⟨p_sc28, List.forall_mem_cons.mpr ⟨p_sc29, fun _ h => absurd h List.not_mem_nil⟩⟩⟩) (by decide +kernel)
/-- X5_takeRowers -/
def sc31 : CT := (22, [.inr (.inl [15]), .inr (.inl [10])], [(none, [])])
theorem p_sc31 : CtP HCs sc31 := ct_of (cts := []) (hds := [(2, [some (.inr (.inl [15])), some (.inr (.inl [10])), some (.inl (0, 8, none)), none, none], 0, [(2, 1, 8)])]) (w := 9) (fuel := 69) (fun _ h => absurd h List.not_mem_nil) (by decide +kernel)
/-- X5_pullAll -/
def sc32 : CT := (23, [.inr (.inl [15]), .inr (.inl [10]), .inl (0, 23, none)], [(none, [])])
theorem p_sc32 : CtP HCs sc32 := ct_of (cts := []) (hds := [(33, [some (.inr (.inl [15])), some (.inr (.inl [10])), some (.inl (0, 23, none)), some (.inl (0, 1, none)), some (.inl ((-2147483648), 2147483647, none)), some (.inr (.inl [22, 23, 24, 25, 26, 27, 28, 29, 30, 31, 32, 33, 34, 35, 36, 37, 38, 39, 40, 41, 42, 43, 44, 45])), some (.inl ((-2147483648), 2147483647, none)), some (.inl ((-2147483648), 2147483647, none)), some (.inl (0, 8, none)), none], 0, [(8, 1, 8)])]) (w := 9) (fuel := 109) (fun _ h => absurd h List.not_mem_nil) (by decide +kernel)
/-- X5_placeBehind -/
def sc33 : CT := (24, [.inr (.inl [15]), .inr (.inl [10]), .inl (0, 23, none), .inl ((-2147483648), 2147483647, none)], [(some (.inl (0, 20, none)), [])])
theorem p_sc33 : CtP HCs sc33 := ct_of (cts := []) (hds := [(45, [some (.inr (.inl [15])), some (.inr (.inl [10])), some (.inl (0, 23, none)), some (.inl ((-2147483648), 2147483647, none)), some (.inl ((-2147483648), 2147483647, none)), some (.inl ((-2147483648), 2147483647, none)), some (.inl ((-1), 1, none)), some (.inl ((-2147483648), 2147483647, none))], 0, [])]) (w := 1) (fuel := 65) (fun _ h => absurd h List.not_mem_nil) (by decide +kernel)
/-- X5_metresIn -/
def sc34 : CT := (25, [.inr (.inl [15]), .inr (.inl [10]), .inl (0, 23, none)], [(some (.inl ((-2147483648), 2147483647, none)), [])])
theorem p_sc34 : CtP HCs sc34 := ct_of (cts := []) (hds := []) (w := 0) (fuel := 41) (fun _ h => absurd h List.not_mem_nil) (by decide +kernel)
/-- X5_row -/
def sc35 : CT := (20, [.inr (.inl [15]), .inr (.inl [10]), .inr (.inl [2]), .inl ((-2147483648), 2147483647, none)], [(none, [])])
theorem p_sc35 : CtP HCs sc35 := ct_of (cts := [sc30, sc31, sc32, sc33, sc34]) (hds := [(16, [some (.inr (.inl [15])), some (.inr (.inl [10])), some (.inr (.inl [2])), some (.inl ((-2147483648), 2147483647, none)), some (.inl ((-2147483648), 2147483647, none)), some (.inl (0, 20, none)), some (.inl (0, 24, none))], 0, [(6, 1, 24)])]) (w := 25) (fuel := 67) (List.forall_mem_cons.mpr ⟨p_sc30, List.forall_mem_cons.mpr ⟨p_sc31, List.forall_mem_cons.mpr ⟨p_sc32, List.forall_mem_cons.mpr ⟨p_sc33, List.forall_mem_cons.mpr ⟨p_sc34, fun _ h => absurd h List.not_mem_nil⟩⟩⟩⟩⟩) (by decide +kernel)
/-- X6_toldTrip -/
def sc36 : CT := (88, [.inr (.inl [0])], [(some (.inr (.inl [15])), [])])
theorem p_sc36 : CtP HCs sc36 := ct_of (cts := [sc35]) (hds := []) (w := 0) (fuel := 19) (List.forall_mem_cons.mpr ⟨p_sc35, fun _ h => absurd h List.not_mem_nil⟩) (by decide +kernel)
/-- X6_write -/
def sc37 : CT := (75, [.inr (.inl [0]), .inl ((-2147483648), 2147483647, none), .inl ((-2147483648), 2147483647, none)], [(some (.inl ((-2147483648), 2147483647, none)), [])])
theorem p_sc37 : CtP HCs sc37 := ct_of (cts := [sc14, sc16, sc23, sc26, sc36]) (hds := [(32, [some (.inr (.inl [0])), some (.inl (0, 1, none)), some (.inl (0, 3, none)), some (.inr (.inl [115, 117, 119, 121])), some (.inr (.inl [15])), some (.inl (0, 24, none)), some (.inl (0, 24, none))], 0, [(6, 1, 24)])]) (w := 25) (fuel := 55) (List.forall_mem_cons.mpr ⟨p_sc14, List.forall_mem_cons.mpr ⟨p_sc16, List.forall_mem_cons.mpr ⟨p_sc23, List.forall_mem_cons.mpr ⟨p_sc26, List.forall_mem_cons.mpr ⟨p_sc36, fun _ h => absurd h List.not_mem_nil⟩⟩⟩⟩⟩) (by decide +kernel)
