/-! the class: its queries return, keep the ranges and what is frozen (printed by wip/p1/absint.py) -/
def HC : AH := [.inr (.inr (6, [.inl 1, .inl 2, .inl 6, .inl 9, .inr ((-2147483648), 2147483647, true), .inl 10, .inl 15, .inl 53, .inl 58, .inl 96, .inl 97, .inl 108, .inr (0, 1, false), .inr (0, 1, false)])), .inr (.inl (2, [109, 111, 113])), .inr (.inr (1, [.inl 3, .inl 4, .inl 5, .inr (0, 8, true)])), .inl (0, 8, (-2147483648), 2147483647, true), .inl (0, 8, 0, 23, true), .inl (0, 8, (-2147483648), 2147483647, true), .inr (.inr (2, [.inl 7, .inl 8, .inr (0, 8, true)])), .inl (0, 8, 0, 23, true), .inl (0, 8, (-2147483648), 2147483647, true), .inr (.inl (3, [115, 117, 119, 121])), .inr (.inr (0, [.inr (0, 8, true), .inl 11, .inl 12, .inl 13, .inl 14, .inr ((-2147483648), 2147483647, true), .inr ((-2147483648), 2147483647, true)])), .inl (0, 8, (-2147483648), 2147483647, true), .inl (0, 8, (-2147483648), 2147483647, true), .inl (0, 24, (-2147483648), 2147483647, true), .inl (0, 24, (-2147483648), 2147483647, true), .inr (.inr (5, [.inl 16, .inl 17, .inl 18, .inl 19, .inl 20, .inl 21, .inl 46, .inl 47, .inr ((-2147483648), 2147483647, false), .inl 48, .inl 49, .inl 50, .inl 51, .inl 52])), .inl (0, 24, (-2147483648), 2147483647, false), .inl (0, 24, 0, 20, false), .inl (0, 24, (-2147483648), 2147483647, false), .inl (0, 24, (-2147483648), 2147483647, false), .inl (0, 24, (-2147483648), 2147483647, false), .inr (.inl (4, [22, 23, 24, 25, 26, 27, 28, 29, 30, 31, 32, 33, 34, 35, 36, 37, 38, 39, 40, 41, 42, 43, 44, 45])), .inl (0, 8, (-2147483648), 2147483647, false), .inl (0, 8, (-2147483648), 2147483647, false), .inl (0, 8, (-2147483648), 2147483647, false), .inl (0, 8, (-2147483648), 2147483647, false), .inl (0, 8, (-2147483648), 2147483647, false), .inl (0, 8, (-2147483648), 2147483647, false), .inl (0, 8, (-2147483648), 2147483647, false), .inl (0, 8, (-2147483648), 2147483647, false), .inl (0, 8, (-2147483648), 2147483647, false), .inl (0, 8, (-2147483648), 2147483647, false), .inl (0, 8, (-2147483648), 2147483647, false), .inl (0, 8, (-2147483648), 2147483647, false), .inl (0, 8, (-2147483648), 2147483647, false), .inl (0, 8, (-2147483648), 2147483647, false), .inl (0, 8, (-2147483648), 2147483647, false), .inl (0, 8, (-2147483648), 2147483647, false), .inl (0, 8, (-2147483648), 2147483647, false), .inl (0, 8, (-2147483648), 2147483647, false), .inl (0, 8, (-2147483648), 2147483647, false), .inl (0, 8, (-2147483648), 2147483647, false), .inl (0, 8, (-2147483648), 2147483647, false), .inl (0, 8, (-2147483648), 2147483647, false), .inl (0, 8, (-2147483648), 2147483647, false), .inl (0, 8, (-2147483648), 2147483647, false), .inl (0, 8, (-2147483648), 2147483647, false), .inl (0, 8, (-2147483648), 2147483647, false), .inl (0, 8, (-2147483648), 2147483647, false), .inl (0, 8, (-2147483648), 2147483647, false), .inl (0, 24, (-2147483648), 2147483647, false), .inl (0, 24, (-2147483648), 2147483647, false), .inl (0, 24, (-2147483648), 2147483647, false), .inr (.inr (0, [.inr (0, 8, false), .inl 54, .inl 55, .inl 56, .inl 57, .inr ((-2147483648), 2147483647, false), .inr ((-2147483648), 2147483647, false)])), .inl (0, 8, (-2147483648), 2147483647, false), .inl (0, 8, (-2147483648), 2147483647, false), .inl (0, 24, (-2147483648), 2147483647, false), .inl (0, 24, (-2147483648), 2147483647, false), .inr (.inr (5, [.inl 59, .inl 60, .inl 61, .inl 62, .inl 63, .inl 64, .inl 89, .inl 90, .inr ((-2147483648), 2147483647, false), .inl 91, .inl 92, .inl 93, .inl 94, .inl 95])), .inl (0, 24, (-2147483648), 2147483647, false), .inl (0, 24, 0, 20, false), .inl (0, 24, (-2147483648), 2147483647, false), .inl (0, 24, (-2147483648), 2147483647, false), .inl (0, 24, (-2147483648), 2147483647, false), .inr (.inl (4, [65, 66, 67, 68, 69, 70, 71, 72, 73, 74, 75, 76, 77, 78, 79, 80, 81, 82, 83, 84, 85, 86, 87, 88])), .inl (0, 8, (-2147483648), 2147483647, false), .inl (0, 8, (-2147483648), 2147483647, false), .inl (0, 8, (-2147483648), 2147483647, false), .inl (0, 8, (-2147483648), 2147483647, false), .inl (0, 8, (-2147483648), 2147483647, false), .inl (0, 8, (-2147483648), 2147483647, false), .inl (0, 8, (-2147483648), 2147483647, false), .inl (0, 8, (-2147483648), 2147483647, false), .inl (0, 8, (-2147483648), 2147483647, false), .inl (0, 8, (-2147483648), 2147483647, false), .inl (0, 8, (-2147483648), 2147483647, false), .inl (0, 8, (-2147483648), 2147483647, false), .inl (0, 8, (-2147483648), 2147483647, false), .inl (0, 8, (-2147483648), 2147483647, false), .inl (0, 8, (-2147483648), 2147483647, false), .inl (0, 8, (-2147483648), 2147483647, false), .inl (0, 8, (-2147483648), 2147483647, false), .inl (0, 8, (-2147483648), 2147483647, false), .inl (0, 8, (-2147483648), 2147483647, false), .inl (0, 8, (-2147483648), 2147483647, false), .inl (0, 8, (-2147483648), 2147483647, false), .inl (0, 8, (-2147483648), 2147483647, false), .inl (0, 8, (-2147483648), 2147483647, false), .inl (0, 8, (-2147483648), 2147483647, false), .inl (0, 8, (-2147483648), 2147483647, false), .inl (0, 8, (-2147483648), 2147483647, false), .inl (0, 8, (-2147483648), 2147483647, false), .inl (0, 8, (-2147483648), 2147483647, false), .inl (0, 24, (-2147483648), 2147483647, false), .inl (0, 24, (-2147483648), 2147483647, false), .inl (0, 24, (-2147483648), 2147483647, false), .inl (0, 256, (-2147483648), 2147483647, false), .inr (.inl (4, [98, 99, 100, 101, 102, 103, 104, 105, 106, 107])), .inl (0, 24, 0, 20, false), .inl (0, 24, 0, 20, false), .inl (0, 24, 0, 20, false), .inl (0, 24, 0, 20, false), .inl (0, 24, 0, 20, false), .inl (0, 24, 0, 20, false), .inl (0, 24, 0, 20, false), .inl (0, 24, 0, 20, false), .inl (0, 24, 0, 20, false), .inl (0, 24, 0, 20, false), .inl (0, 21, (-2147483648), 2147483647, false), .inr (.inr (4, [.inl 110, .inr (0, 23, true)])), .inl (0, 23, (-2147483648), 2147483647, true), .inr (.inr (4, [.inl 112, .inr (0, 24, true)])), .inl (0, 24, (-2147483648), 2147483647, true), .inr (.inr (4, [.inl 114, .inr (0, 24, true)])), .inl (0, 24, (-2147483648), 2147483647, true), .inr (.inr (3, [.inl 116, .inr (0, 1, true), .inr ((-2147483648), 2147483647, true), .inr (0, 60, true)])), .inl (0, 60, (-2147483648), 2147483647, true), .inr (.inr (3, [.inl 118, .inr (0, 1, true), .inr ((-2147483648), 2147483647, true), .inr (0, 60, true)])), .inl (0, 60, (-2147483648), 2147483647, true), .inr (.inr (3, [.inl 120, .inr (0, 1, true), .inr ((-2147483648), 2147483647, true), .inr (0, 60, true)])), .inl (0, 60, (-2147483648), 2147483647, true), .inr (.inr (3, [.inl 122, .inr (0, 1, true), .inr ((-2147483648), 2147483647, true), .inr (0, 60, true)])), .inl (0, 60, (-2147483648), 2147483647, true), .inr (.inl (99, [])), .inr (.inl (99, [])), .inr (.inl (99, [])), .inr (.inl (99, [])), .inr (.inl (99, [])), .inr (.inl (99, [])), .inr (.inl (99, [])), .inr (.inl (99, [])), .inr (.inl (99, [])), .inr (.inl (99, [])), .inr (.inl (99, [])), .inr (.inl (99, [])), .inr (.inl (99, [])), .inr (.inl (99, [])), .inr (.inl (99, [])), .inr (.inl (99, [])), .inr (.inl (99, [])), .inr (.inl (99, [])), .inr (.inl (99, [])), .inr (.inl (99, [])), .inr (.inl (99, [])), .inr (.inl (99, [])), .inr (.inl (99, [])), .inr (.inl (99, [])), .inr (.inl (99, [])), .inr (.inl (99, [])), .inr (.inl (99, [])), .inr (.inl (99, [])), .inr (.inl (99, [])), .inr (.inl (99, []))]
/-- X6_isBelow -/
def cc0 : CT := (82, [.inl ((-2147483648), 2147483647, none), .inl (3, 3, none)], [(some (.inl (1, 1, none)), [(0, 0, 2)]), (some (.inl (0, 0, none)), [])])
theorem p_cc0 : CtP HC cc0 := ct_of (cts := []) (hds := []) (w := 0) (fuel := 11) (fun _ h => absurd h List.not_mem_nil) (by decide +kernel)
/-- X4_fitsCrew -/
def cc1 : CT := (17, [.inl ((-2147483648), 2147483647, none), .inl ((-2147483648), 2147483647, none)], [(some (.inl (1, 1, none)), [(1, 49, 115)]), (some (.inl (0, 0, none)), [])])
theorem p_cc1 : CtP HC cc1 := ct_of (cts := []) (hds := []) (w := 0) (fuel := 37) (fun _ h => absurd h List.not_mem_nil) (by decide +kernel)
/-- X4_crewFault -/
def cc2 : CT := (16, [.inr (.inl [109])], [(some (.inl ((-1), 23, none)), [])])
theorem p_cc2 : CtP HC cc2 := ct_of (cts := [cc1]) (hds := [(2, [some (.inr (.inl [109])), some (.inl (0, 23, none))], 0, [(1, 1, 23)])]) (w := 24) (fuel := 35) (List.forall_mem_cons.mpr ⟨p_cc1, fun _ h => absurd h List.not_mem_nil⟩) (by decide +kernel)
/-- X4_signFault -/
def cc3 : CT := (18, [.inr (.inl [111, 113]), .inl ((-2147483648), 2147483647, none)], [(some (.inl ((-1), 23, none)), [])])
theorem p_cc3 : CtP HC cc3 := ct_of (cts := []) (hds := [(2, [some (.inr (.inl [111, 113])), some (.inl ((-2147483648), 2147483647, none)), some (.inl (0, 24, none)), none, none], 0, [(2, 1, 24)])]) (w := 25) (fuel := 46) (fun _ h => absurd h List.not_mem_nil) (by decide +kernel)
/-- X6_fault -/
def cc4 : CT := (34, [.inr (.inl [0]), .inl ((-2147483648), 2147483647, none)], [(some (.inl ((-2), 23, none)), [])])
theorem p_cc4 : CtP HC cc4 := ct_of (cts := [cc0, cc2, cc3]) (hds := []) (w := 0) (fuel := 28) (List.forall_mem_cons.mpr ⟨p_cc0, List.forall_mem_cons.mpr ⟨p_cc2, List.forall_mem_cons.mpr ⟨p_cc3, fun _ h => absurd h List.not_mem_nil⟩⟩⟩) (by decide +kernel)
/-- X6_isBelow -/
def cc5 : CT := (82, [.inl ((-2147483648), 2147483647, none), .inl (0, 8, none)], [(some (.inl (1, 1, none)), [(0, 0, 7), (1, 1, 8)]), (some (.inl (0, 0, none)), [])])
theorem p_cc5 : CtP HC cc5 := ct_of (cts := []) (hds := []) (w := 0) (fuel := 11) (fun _ h => absurd h List.not_mem_nil) (by decide +kernel)
/-- X6_isRower -/
def cc6 : CT := (84, [.inr (.inl [0]), .inl ((-2147483648), 2147483647, none)], [(some (.inl (1, 1, none)), [(1, 0, 7)]), (some (.inl (0, 0, none)), [])])
theorem p_cc6 : CtP HC cc6 := ct_of (cts := [cc5]) (hds := []) (w := 0) (fuel := 8) (List.forall_mem_cons.mpr ⟨p_cc5, fun _ h => absurd h List.not_mem_nil⟩) (by decide +kernel)
/-- X6_isBelow -/
def cc7 : CT := (82, [.inl ((-2147483648), 2147483647, none), .inl (2, 2, none)], [(some (.inl (1, 1, none)), [(0, 0, 1)]), (some (.inl (0, 0, none)), [])])
theorem p_cc7 : CtP HC cc7 := ct_of (cts := []) (hds := []) (w := 0) (fuel := 11) (fun _ h => absurd h List.not_mem_nil) (by decide +kernel)
/-- X6_rower -/
def cc8 : CT := (35, [.inr (.inl [0]), .inl ((-2147483648), 2147483647, none), .inl ((-2147483648), 2147483647, none)], [(some (.inl ((-2147483648), 2147483647, none)), [])])
theorem p_cc8 : CtP HC cc8 := ct_of (cts := [cc6, cc7]) (hds := []) (w := 0) (fuel := 26) (List.forall_mem_cons.mpr ⟨p_cc6, List.forall_mem_cons.mpr ⟨p_cc7, fun _ h => absurd h List.not_mem_nil⟩⟩) (by decide +kernel)
/-- X6_isBelow -/
def cc9 : CT := (82, [.inl ((-2147483648), 2147483647, none), .inl (24, 24, none)], [(some (.inl (1, 1, none)), [(0, 0, 23)]), (some (.inl (0, 0, none)), [])])
theorem p_cc9 : CtP HC cc9 := ct_of (cts := []) (hds := []) (w := 0) (fuel := 11) (fun _ h => absurd h List.not_mem_nil) (by decide +kernel)
/-- X6_call -/
def cc10 : CT := (36, [.inr (.inl [0]), .inl ((-2147483648), 2147483647, none), .inl ((-2147483648), 2147483647, none)], [(some (.inl ((-2147483648), 2147483647, none)), [])])
theorem p_cc10 : CtP HC cc10 := ct_of (cts := [cc7, cc9]) (hds := []) (w := 0) (fuel := 26) (List.forall_mem_cons.mpr ⟨p_cc7, List.forall_mem_cons.mpr ⟨p_cc9, fun _ h => absurd h List.not_mem_nil⟩⟩) (by decide +kernel)
/-- J7_fill_53178 -/
def cc11 : CT := (187, [.inr (.inl [50]), .inl ((-2147483648), 2147483647, none)], [(none, [])])
theorem p_cc11 : CtP HC cc11 := ct_of (cts := []) (hds := [(5, [some (.inr (.inl [50])), some (.inl ((-2147483648), 2147483647, none)), some (.inl (0, 24, none)), some (.inl (24, 24, none))], 0, [(2, 1, 24)])]) (w := 25) (fuel := 17) (fun _ h => absurd h List.not_mem_nil) (by decide +kernel)
/-- J7_fill_53178 -/
def cc12 : CT := (187, [.inr (.inl [51]), .inl ((-2147483648), 2147483647, none)], [(none, [])])
theorem p_cc12 : CtP HC cc12 := ct_of (cts := []) (hds := [(5, [some (.inr (.inl [51])), some (.inl ((-2147483648), 2147483647, none)), some (.inl (0, 24, none)), some (.inl (24, 24, none))], 0, [(2, 1, 24)])]) (w := 25) (fuel := 17) (fun _ h => absurd h List.not_mem_nil) (by decide +kernel)
/-- J7_fill_53178 -/
def cc13 : CT := (187, [.inr (.inl [52]), .inl ((-2147483648), 2147483647, none)], [(none, [])])
theorem p_cc13 : CtP HC cc13 := ct_of (cts := []) (hds := [(5, [some (.inr (.inl [52])), some (.inl ((-2147483648), 2147483647, none)), some (.inl (0, 24, none)), some (.inl (24, 24, none))], 0, [(2, 1, 24)])]) (w := 25) (fuel := 17) (fun _ h => absurd h List.not_mem_nil) (by decide +kernel)
/-- X5_takeEvents -/
def cc14 : CT := (21, [.inr (.inl [15]), .inr (.inl [2]), .inl ((-2147483648), 2147483647, none)], [(none, [])])
theorem p_cc14 : CtP HC cc14 := ct_of (cts := [cc11, cc12, cc13]) (hds := [(14, [some (.inr (.inl [15])), some (.inr (.inl [2])), some (.inl ((-2147483648), 2147483647, none)), some (.inl (0, 8, none)), none], 0, [(3, 1, 8)])]) (w := 9) (fuel := 87) (List.forall_mem_cons.mpr ⟨p_cc11, List.forall_mem_cons.mpr ⟨p_cc12, List.forall_mem_cons.mpr ⟨p_cc13, fun _ h => absurd h List.not_mem_nil⟩⟩⟩) (by decide +kernel)
/-- X5_takeRowers -/
def cc15 : CT := (22, [.inr (.inl [15]), .inr (.inl [10])], [(none, [])])
theorem p_cc15 : CtP HC cc15 := ct_of (cts := []) (hds := [(2, [some (.inr (.inl [15])), some (.inr (.inl [10])), some (.inl (0, 8, none)), none, none], 0, [(2, 1, 8)])]) (w := 9) (fuel := 69) (fun _ h => absurd h List.not_mem_nil) (by decide +kernel)
/-- X5_pullAll -/
def cc16 : CT := (23, [.inr (.inl [15]), .inr (.inl [10]), .inl (0, 23, none)], [(none, [])])
theorem p_cc16 : CtP HC cc16 := ct_of (cts := []) (hds := [(33, [some (.inr (.inl [15])), some (.inr (.inl [10])), some (.inl (0, 23, none)), some (.inl (0, 1, none)), some (.inl ((-2147483648), 2147483647, none)), some (.inr (.inl [22, 23, 24, 25, 26, 27, 28, 29, 30, 31, 32, 33, 34, 35, 36, 37, 38, 39, 40, 41, 42, 43, 44, 45])), some (.inl ((-2147483648), 2147483647, none)), some (.inl ((-2147483648), 2147483647, none)), some (.inl (0, 8, none)), none], 0, [(8, 1, 8)])]) (w := 9) (fuel := 109) (fun _ h => absurd h List.not_mem_nil) (by decide +kernel)
/-- X5_placeBehind -/
def cc17 : CT := (24, [.inr (.inl [15]), .inr (.inl [10]), .inl (0, 23, none), .inl ((-2147483648), 2147483647, none)], [(some (.inl (0, 20, none)), [])])
theorem p_cc17 : CtP HC cc17 := ct_of (cts := []) (hds := [(45, [some (.inr (.inl [15])), some (.inr (.inl [10])), some (.inl (0, 23, none)), some (.inl ((-2147483648), 2147483647, none)), some (.inl ((-2147483648), 2147483647, none)), some (.inl ((-2147483648), 2147483647, none)), some (.inl ((-1), 1, none)), some (.inl ((-2147483648), 2147483647, none))], 0, [])]) (w := 1) (fuel := 65) (fun _ h => absurd h List.not_mem_nil) (by decide +kernel)
/-- X5_metresIn -/
def cc18 : CT := (25, [.inr (.inl [15]), .inr (.inl [10]), .inl (0, 23, none)], [(some (.inl ((-2147483648), 2147483647, none)), [])])
theorem p_cc18 : CtP HC cc18 := ct_of (cts := []) (hds := []) (w := 0) (fuel := 41) (fun _ h => absurd h List.not_mem_nil) (by decide +kernel)
/-- X5_row -/
def cc19 : CT := (20, [.inr (.inl [15]), .inr (.inl [10]), .inr (.inl [2]), .inl ((-2147483648), 2147483647, none)], [(none, [])])
theorem p_cc19 : CtP HC cc19 := ct_of (cts := [cc14, cc15, cc16, cc17, cc18]) (hds := [(16, [some (.inr (.inl [15])), some (.inr (.inl [10])), some (.inr (.inl [2])), some (.inl ((-2147483648), 2147483647, none)), some (.inl ((-2147483648), 2147483647, none)), some (.inl (0, 20, none)), some (.inl (0, 24, none))], 0, [(6, 1, 24)])]) (w := 25) (fuel := 67) (List.forall_mem_cons.mpr ⟨p_cc14, List.forall_mem_cons.mpr ⟨p_cc15, List.forall_mem_cons.mpr ⟨p_cc16, List.forall_mem_cons.mpr ⟨p_cc17, List.forall_mem_cons.mpr ⟨p_cc18, fun _ h => absurd h List.not_mem_nil⟩⟩⟩⟩⟩) (by decide +kernel)
/-- X6_toldTrip -/
def cc20 : CT := (88, [.inr (.inl [0])], [(some (.inr (.inl [15])), [])])
theorem p_cc20 : CtP HC cc20 := ct_of (cts := [cc19]) (hds := []) (w := 0) (fuel := 19) (List.forall_mem_cons.mpr ⟨p_cc19, fun _ h => absurd h List.not_mem_nil⟩) (by decide +kernel)
/-- X6_at -/
def cc21 : CT := (43, [.inr (.inl [0]), .inl ((-2147483648), 2147483647, none), .inl ((-2147483648), 2147483647, none)], [(some (.inl ((-2147483648), 2147483647, none)), [])])
theorem p_cc21 : CtP HC cc21 := ct_of (cts := [cc9, cc20]) (hds := []) (w := 0) (fuel := 40) (List.forall_mem_cons.mpr ⟨p_cc9, List.forall_mem_cons.mpr ⟨p_cc20, fun _ h => absurd h List.not_mem_nil⟩⟩) (by decide +kernel)
/-- X6_pulls -/
def cc22 : CT := (44, [.inr (.inl [0]), .inl ((-2147483648), 2147483647, none), .inl ((-2147483648), 2147483647, none)], [(some (.inl ((-2147483648), 2147483647, none)), [])])
theorem p_cc22 : CtP HC cc22 := ct_of (cts := [cc6, cc9, cc20]) (hds := []) (w := 0) (fuel := 20) (List.forall_mem_cons.mpr ⟨p_cc6, List.forall_mem_cons.mpr ⟨p_cc9, List.forall_mem_cons.mpr ⟨p_cc20, fun _ h => absurd h List.not_mem_nil⟩⟩⟩) (by decide +kernel)
/-- X6_done -/
def cc23 : CT := (45, [.inr (.inl [0]), .inl ((-2147483648), 2147483647, none), .inl ((-2147483648), 2147483647, none)], [(some (.inl ((-2147483648), 2147483647, none)), [])])
theorem p_cc23 : CtP HC cc23 := ct_of (cts := [cc6, cc7, cc20]) (hds := []) (w := 0) (fuel := 27) (List.forall_mem_cons.mpr ⟨p_cc6, List.forall_mem_cons.mpr ⟨p_cc7, List.forall_mem_cons.mpr ⟨p_cc20, fun _ h => absurd h List.not_mem_nil⟩⟩⟩) (by decide +kernel)
/-- X6_there -/
def cc24 : CT := (46, [.inr (.inl [0])], [(some (.inl ((-2147483648), 2147483647, none)), [])])
theorem p_cc24 : CtP HC cc24 := ct_of (cts := [cc20]) (hds := []) (w := 0) (fuel := 6) (List.forall_mem_cons.mpr ⟨p_cc20, fun _ h => absurd h List.not_mem_nil⟩) (by decide +kernel)
/-- X5_minutesAground -/
def cc25 : CT := (26, [.inr (.inl [15])], [(some (.inl ((-2147483648), 2147483647, none)), [])])
theorem p_cc25 : CtP HC cc25 := ct_of (cts := []) (hds := [(4, [some (.inr (.inl [15])), some (.inl ((-2147483648), 2147483647, none)), some (.inl (0, 24, none))], 0, [(2, 1, 24)])]) (w := 25) (fuel := 20) (fun _ h => absurd h List.not_mem_nil) (by decide +kernel)
/-- X5_firstAground -/
def cc26 : CT := (27, [.inr (.inl [15])], [(some (.inl ((-1), 23, none)), [])])
theorem p_cc26 : CtP HC cc26 := ct_of (cts := []) (hds := [(2, [some (.inr (.inl [15])), some (.inl (0, 24, none))], 0, [(1, 1, 24)])]) (w := 25) (fuel := 19) (fun _ h => absurd h List.not_mem_nil) (by decide +kernel)
/-- X6_grounded -/
def cc27 : CT := (47, [.inr (.inl [0]), .inl ((-2147483648), 2147483647, none)], [(some (.inl ((-2147483648), 2147483647, none)), [])])
theorem p_cc27 : CtP HC cc27 := ct_of (cts := [cc7, cc20, cc25, cc26]) (hds := []) (w := 0) (fuel := 18) (List.forall_mem_cons.mpr ⟨p_cc7, List.forall_mem_cons.mpr ⟨p_cc20, List.forall_mem_cons.mpr ⟨p_cc25, List.forall_mem_cons.mpr ⟨p_cc26, fun _ h => absurd h List.not_mem_nil⟩⟩⟩⟩) (by decide +kernel)
/-- X5_lastStray -/
def cc28 : CT := (28, [.inr (.inl [15])], [(some (.inl ((-2147483648), 2147483647, none)), [])])
theorem p_cc28 : CtP HC cc28 := ct_of (cts := []) (hds := []) (w := 0) (fuel := 10) (fun _ h => absurd h List.not_mem_nil) (by decide +kernel)
/-- X5_farthestStray -/
def cc29 : CT := (29, [.inr (.inl [15])], [(some (.inl (0, 2147483647, none)), [])])
theorem p_cc29 : CtP HC cc29 := ct_of (cts := []) (hds := [(4, [some (.inr (.inl [15])), some (.inl (0, 2147483647, none)), some (.inl (0, 24, none))], 0, [(2, 1, 24)])]) (w := 25) (fuel := 23) (fun _ h => absurd h List.not_mem_nil) (by decide +kernel)
/-- X6_stray -/
def cc30 : CT := (48, [.inr (.inl [0]), .inl ((-2147483648), 2147483647, none)], [(some (.inl ((-2147483648), 2147483647, none)), [])])
theorem p_cc30 : CtP HC cc30 := ct_of (cts := [cc7, cc20, cc28, cc29]) (hds := []) (w := 0) (fuel := 18) (List.forall_mem_cons.mpr ⟨p_cc7, List.forall_mem_cons.mpr ⟨p_cc20, List.forall_mem_cons.mpr ⟨p_cc28, List.forall_mem_cons.mpr ⟨p_cc29, fun _ h => absurd h List.not_mem_nil⟩⟩⟩⟩) (by decide +kernel)
/-- X6_best -/
def cc31 : CT := (49, [.inr (.inl [0])], [(some (.inl ((-1), 7, none)), [])])
theorem p_cc31 : CtP HC cc31 := ct_of (cts := [cc20]) (hds := [(7, [some (.inr (.inl [0])), some (.inr (.inl [15])), some (.inl ((-1), 7, none)), some (.inl (0, 8, none))], 0, [(3, 1, 8)])]) (w := 9) (fuel := 37) (List.forall_mem_cons.mpr ⟨p_cc20, fun _ h => absurd h List.not_mem_nil⟩) (by decide +kernel)
/-- X6_idle -/
def cc32 : CT := (50, [.inr (.inl [0])], [(some (.inl ((-2147483648), 2147483647, none)), [])])
theorem p_cc32 : CtP HC cc32 := ct_of (cts := [cc20]) (hds := [(7, [some (.inr (.inl [0])), some (.inr (.inl [15])), some (.inl ((-2147483648), 2147483647, none)), some (.inl (0, 8, none))], 0, [(3, 1, 8)])]) (w := 9) (fuel := 29) (List.forall_mem_cons.mpr ⟨p_cc20, fun _ h => absurd h List.not_mem_nil⟩) (by decide +kernel)
/-- X0_take -/
def cc33 : CT := (1, [.inr (.inl [53]), .inr (.inl [10])], [(none, [])])
theorem p_cc33 : CtP HC cc33 := ct_of (cts := []) (hds := []) (w := 0) (fuel := 47) (fun _ h => absurd h List.not_mem_nil) (by decide +kernel)
/-- J7_fill_53178 -/
def cc34 : CT := (187, [.inr (.inl [93]), .inl ((-2147483648), 2147483647, none)], [(none, [])])
theorem p_cc34 : CtP HC cc34 := ct_of (cts := []) (hds := [(5, [some (.inr (.inl [93])), some (.inl ((-2147483648), 2147483647, none)), some (.inl (0, 24, none)), some (.inl (24, 24, none))], 0, [(2, 1, 24)])]) (w := 25) (fuel := 17) (fun _ h => absurd h List.not_mem_nil) (by decide +kernel)
/-- J7_fill_53178 -/
def cc35 : CT := (187, [.inr (.inl [94]), .inl ((-2147483648), 2147483647, none)], [(none, [])])
theorem p_cc35 : CtP HC cc35 := ct_of (cts := []) (hds := [(5, [some (.inr (.inl [94])), some (.inl ((-2147483648), 2147483647, none)), some (.inl (0, 24, none)), some (.inl (24, 24, none))], 0, [(2, 1, 24)])]) (w := 25) (fuel := 17) (fun _ h => absurd h List.not_mem_nil) (by decide +kernel)
/-- J7_fill_53178 -/
def cc36 : CT := (187, [.inr (.inl [95]), .inl ((-2147483648), 2147483647, none)], [(none, [])])
theorem p_cc36 : CtP HC cc36 := ct_of (cts := []) (hds := [(5, [some (.inr (.inl [95])), some (.inl ((-2147483648), 2147483647, none)), some (.inl (0, 24, none)), some (.inl (24, 24, none))], 0, [(2, 1, 24)])]) (w := 25) (fuel := 17) (fun _ h => absurd h List.not_mem_nil) (by decide +kernel)
/-- X5_takeEvents -/
def cc37 : CT := (21, [.inr (.inl [58]), .inr (.inl [2]), .inl ((-2147483648), 2147483647, none)], [(none, [])])
theorem p_cc37 : CtP HC cc37 := ct_of (cts := [cc34, cc35, cc36]) (hds := [(14, [some (.inr (.inl [58])), some (.inr (.inl [2])), some (.inl ((-2147483648), 2147483647, none)), some (.inl (0, 8, none)), none], 0, [(3, 1, 8)])]) (w := 9) (fuel := 87) (List.forall_mem_cons.mpr ⟨p_cc34, List.forall_mem_cons.mpr ⟨p_cc35, List.forall_mem_cons.mpr ⟨p_cc36, fun _ h => absurd h List.not_mem_nil⟩⟩⟩) (by decide +kernel)
/-- X5_takeRowers -/
def cc38 : CT := (22, [.inr (.inl [58]), .inr (.inl [53])], [(none, [])])
theorem p_cc38 : CtP HC cc38 := ct_of (cts := []) (hds := [(2, [some (.inr (.inl [58])), some (.inr (.inl [53])), some (.inl (0, 8, none)), none, none], 0, [(2, 1, 8)])]) (w := 9) (fuel := 69) (fun _ h => absurd h List.not_mem_nil) (by decide +kernel)
/-- X5_pullAll -/
def cc39 : CT := (23, [.inr (.inl [58]), .inr (.inl [53]), .inl (0, 23, none)], [(none, [])])
theorem p_cc39 : CtP HC cc39 := ct_of (cts := []) (hds := [(33, [some (.inr (.inl [58])), some (.inr (.inl [53])), some (.inl (0, 23, none)), some (.inl (0, 1, none)), some (.inl ((-2147483648), 2147483647, none)), some (.inr (.inl [65, 66, 67, 68, 69, 70, 71, 72, 73, 74, 75, 76, 77, 78, 79, 80, 81, 82, 83, 84, 85, 86, 87, 88])), some (.inl ((-2147483648), 2147483647, none)), some (.inl ((-2147483648), 2147483647, none)), some (.inl (0, 8, none)), none], 0, [(8, 1, 8)])]) (w := 9) (fuel := 109) (fun _ h => absurd h List.not_mem_nil) (by decide +kernel)
/-- X5_placeBehind -/
def cc40 : CT := (24, [.inr (.inl [58]), .inr (.inl [53]), .inl (0, 23, none), .inl ((-2147483648), 2147483647, none)], [(some (.inl (0, 20, none)), [])])
theorem p_cc40 : CtP HC cc40 := ct_of (cts := []) (hds := [(45, [some (.inr (.inl [58])), some (.inr (.inl [53])), some (.inl (0, 23, none)), some (.inl ((-2147483648), 2147483647, none)), some (.inl ((-2147483648), 2147483647, none)), some (.inl ((-2147483648), 2147483647, none)), some (.inl ((-1), 1, none)), some (.inl ((-2147483648), 2147483647, none))], 0, [])]) (w := 1) (fuel := 65) (fun _ h => absurd h List.not_mem_nil) (by decide +kernel)
/-- X5_metresIn -/
def cc41 : CT := (25, [.inr (.inl [58]), .inr (.inl [53]), .inl (0, 23, none)], [(some (.inl ((-2147483648), 2147483647, none)), [])])
theorem p_cc41 : CtP HC cc41 := ct_of (cts := []) (hds := []) (w := 0) (fuel := 41) (fun _ h => absurd h List.not_mem_nil) (by decide +kernel)
/-- X5_row -/
def cc42 : CT := (20, [.inr (.inl [58]), .inr (.inl [53]), .inr (.inl [2]), .inl ((-2147483648), 2147483647, none)], [(none, [])])
theorem p_cc42 : CtP HC cc42 := ct_of (cts := [cc37, cc38, cc39, cc40, cc41]) (hds := [(16, [some (.inr (.inl [58])), some (.inr (.inl [53])), some (.inr (.inl [2])), some (.inl ((-2147483648), 2147483647, none)), some (.inl ((-2147483648), 2147483647, none)), some (.inl (0, 20, none)), some (.inl (0, 24, none))], 0, [(6, 1, 24)])]) (w := 25) (fuel := 67) (List.forall_mem_cons.mpr ⟨p_cc37, List.forall_mem_cons.mpr ⟨p_cc38, List.forall_mem_cons.mpr ⟨p_cc39, List.forall_mem_cons.mpr ⟨p_cc40, List.forall_mem_cons.mpr ⟨p_cc41, fun _ h => absurd h List.not_mem_nil⟩⟩⟩⟩⟩) (by decide +kernel)
/-- X6_rowOther -/
def cc43 : CT := (89, [.inr (.inl [0])], [(some (.inr (.inl [58])), [])])
theorem p_cc43 : CtP HC cc43 := ct_of (cts := [cc42]) (hds := []) (w := 0) (fuel := 13) (List.forall_mem_cons.mpr ⟨p_cc42, fun _ h => absurd h List.not_mem_nil⟩) (by decide +kernel)
/-- X6_metresSwapped -/
def cc44 : CT := (52, [.inr (.inl [0]), .inl (0, 7, none), .inl (0, 7, none)], [(some (.inl ((-2147483648), 2147483647, none)), [])])
theorem p_cc44 : CtP HC cc44 := ct_of (cts := [cc33, cc43]) (hds := []) (w := 0) (fuel := 53) (List.forall_mem_cons.mpr ⟨p_cc33, List.forall_mem_cons.mpr ⟨p_cc43, fun _ h => absurd h List.not_mem_nil⟩⟩) (by decide +kernel)
/-- X6_swap -/
def cc45 : CT := (51, [.inr (.inl [0]), .inl ((-2147483648), 2147483647, none)], [(some (.inl ((-2147483648), 2147483647, none)), [])])
theorem p_cc45 : CtP HC cc45 := ct_of (cts := [cc0, cc44]) (hds := [(14, [some (.inr (.inl [0])), some (.inl (0, 2, none)), some (.inl ((-1), 7, none)), some (.inl ((-1), 7, none)), some (.inl ((-2147483648), 2147483647, none)), some (.inl (0, 8, none)), none, none], 8, [(5, 9, 8)]), (23, [some (.inr (.inl [0])), some (.inl (0, 2, none)), some (.inl ((-1), 7, none)), some (.inl ((-1), 7, none)), some (.inl ((-2147483648), 2147483647, none)), some (.inl (0, 7, none)), some (.inl (1, 8, none)), none], 0, [(5, 9, 8), (6, 1, 8)])]) (w := 81) (fuel := 59) (List.forall_mem_cons.mpr ⟨p_cc0, List.forall_mem_cons.mpr ⟨p_cc44, fun _ h => absurd h List.not_mem_nil⟩⟩) (by decide +kernel)
/-- X5_lastStray -/
def cc46 : CT := (28, [.inr (.inl [58])], [(some (.inl ((-2147483648), 2147483647, none)), [])])
theorem p_cc46 : CtP HC cc46 := ct_of (cts := []) (hds := []) (w := 0) (fuel := 10) (fun _ h => absurd h List.not_mem_nil) (by decide +kernel)
/-- X6_steer -/
def cc47 : CT := (53, [.inr (.inl [0]), .inl ((-2147483648), 2147483647, none), .inl ((-2147483648), 2147483647, none)], [(some (.inl ((-2147483648), 2147483647, none)), [])])
theorem p_cc47 : CtP HC cc47 := ct_of (cts := [cc7, cc9, cc33, cc43, cc46]) (hds := [(21, [some (.inr (.inl [0])), some (.inl (0, 23, none)), some (.inl (0, 1, none)), some (.inl ((-1), 2, none)), some (.inl ((-2147483648), 2147483647, none)), some (.inl (0, 3, none)), none], 0, [(5, 1, 3)])]) (w := 4) (fuel := 51) (List.forall_mem_cons.mpr ⟨p_cc7, List.forall_mem_cons.mpr ⟨p_cc9, List.forall_mem_cons.mpr ⟨p_cc33, List.forall_mem_cons.mpr ⟨p_cc43, List.forall_mem_cons.mpr ⟨p_cc46, fun _ h => absurd h List.not_mem_nil⟩⟩⟩⟩⟩) (by decide +kernel)
/-- X6_stroke -/
def cc48 : CT := (54, [.inr (.inl [0]), .inl ((-2147483648), 2147483647, none), .inl ((-2147483648), 2147483647, none)], [(some (.inl ((-2147483648), 2147483647, none)), [])])
theorem p_cc48 : CtP HC cc48 := ct_of (cts := [cc7, cc9, cc33, cc43]) (hds := [(21, [some (.inr (.inl [0])), some (.inl (0, 23, none)), some (.inl (0, 1, none)), some (.inl ((-1), 3, none)), some (.inl ((-2147483648), 2147483647, none)), some (.inl (0, 4, none)), none], 0, [(5, 1, 4)])]) (w := 5) (fuel := 53) (List.forall_mem_cons.mpr ⟨p_cc7, List.forall_mem_cons.mpr ⟨p_cc9, List.forall_mem_cons.mpr ⟨p_cc33, List.forall_mem_cons.mpr ⟨p_cc43, fun _ h => absurd h List.not_mem_nil⟩⟩⟩⟩) (by decide +kernel)
/-- J7_fill_53178 -/
def cc49 : CT := (187, [.inr (.inl [96]), .inl ((-2147483648), 2147483647, none)], [(none, [])])
theorem p_cc49 : CtP HC cc49 := ct_of (cts := []) (hds := [(5, [some (.inr (.inl [96])), some (.inl ((-2147483648), 2147483647, none)), some (.inl (0, 256, none)), some (.inl (256, 256, none))], 0, [(2, 1, 256)])]) (w := 257) (fuel := 17) (fun _ h => absurd h List.not_mem_nil) (by decide +kernel)
/-- X6_isBelow -/
def cc50 : CT := (82, [.inl ((-2147483648), 2147483647, none), .inl (256, 256, none)], [(some (.inl (1, 1, none)), [(0, 0, 255)]), (some (.inl (0, 0, none)), [])])
theorem p_cc50 : CtP HC cc50 := ct_of (cts := []) (hds := []) (w := 0) (fuel := 11) (fun _ h => absurd h List.not_mem_nil) (by decide +kernel)
/-- X5_takeRowers -/
def cc51 : CT := (22, [.inr (.inl [58]), .inr (.inl [10])], [(none, [])])
theorem p_cc51 : CtP HC cc51 := ct_of (cts := []) (hds := [(2, [some (.inr (.inl [58])), some (.inr (.inl [10])), some (.inl (0, 8, none)), none, none], 0, [(2, 1, 8)])]) (w := 9) (fuel := 69) (fun _ h => absurd h List.not_mem_nil) (by decide +kernel)
/-- X5_pullAll -/
def cc52 : CT := (23, [.inr (.inl [58]), .inr (.inl [10]), .inl (0, 23, none)], [(none, [])])
theorem p_cc52 : CtP HC cc52 := ct_of (cts := []) (hds := [(33, [some (.inr (.inl [58])), some (.inr (.inl [10])), some (.inl (0, 23, none)), some (.inl (0, 1, none)), some (.inl ((-2147483648), 2147483647, none)), some (.inr (.inl [65, 66, 67, 68, 69, 70, 71, 72, 73, 74, 75, 76, 77, 78, 79, 80, 81, 82, 83, 84, 85, 86, 87, 88])), some (.inl ((-2147483648), 2147483647, none)), some (.inl ((-2147483648), 2147483647, none)), some (.inl (0, 8, none)), none], 0, [(8, 1, 8)])]) (w := 9) (fuel := 109) (fun _ h => absurd h List.not_mem_nil) (by decide +kernel)
/-- X5_placeBehind -/
def cc53 : CT := (24, [.inr (.inl [58]), .inr (.inl [10]), .inl (0, 23, none), .inl ((-2147483648), 2147483647, none)], [(some (.inl (0, 20, none)), [])])
theorem p_cc53 : CtP HC cc53 := ct_of (cts := []) (hds := [(45, [some (.inr (.inl [58])), some (.inr (.inl [10])), some (.inl (0, 23, none)), some (.inl ((-2147483648), 2147483647, none)), some (.inl ((-2147483648), 2147483647, none)), some (.inl ((-2147483648), 2147483647, none)), some (.inl ((-1), 1, none)), some (.inl ((-2147483648), 2147483647, none))], 0, [])]) (w := 1) (fuel := 65) (fun _ h => absurd h List.not_mem_nil) (by decide +kernel)
/-- X5_metresIn -/
def cc54 : CT := (25, [.inr (.inl [58]), .inr (.inl [10]), .inl (0, 23, none)], [(some (.inl ((-2147483648), 2147483647, none)), [])])
theorem p_cc54 : CtP HC cc54 := ct_of (cts := []) (hds := []) (w := 0) (fuel := 41) (fun _ h => absurd h List.not_mem_nil) (by decide +kernel)
/-- X5_row -/
def cc55 : CT := (20, [.inr (.inl [58]), .inr (.inl [10]), .inr (.inl [2]), .inl ((-2147483648), 2147483647, none)], [(none, [])])
theorem p_cc55 : CtP HC cc55 := ct_of (cts := [cc37, cc51, cc52, cc53, cc54]) (hds := [(16, [some (.inr (.inl [58])), some (.inr (.inl [10])), some (.inr (.inl [2])), some (.inl ((-2147483648), 2147483647, none)), some (.inl ((-2147483648), 2147483647, none)), some (.inl (0, 20, none)), some (.inl (0, 24, none))], 0, [(6, 1, 24)])]) (w := 25) (fuel := 67) (List.forall_mem_cons.mpr ⟨p_cc37, List.forall_mem_cons.mpr ⟨p_cc51, List.forall_mem_cons.mpr ⟨p_cc52, List.forall_mem_cons.mpr ⟨p_cc53, List.forall_mem_cons.mpr ⟨p_cc54, fun _ h => absurd h List.not_mem_nil⟩⟩⟩⟩⟩) (by decide +kernel)
/-- X5_firstAground -/
def cc56 : CT := (27, [.inr (.inl [58])], [(some (.inl ((-1), 23, none)), [])])
theorem p_cc56 : CtP HC cc56 := ct_of (cts := []) (hds := [(2, [some (.inr (.inl [58])), some (.inl (0, 24, none))], 0, [(1, 1, 24)])]) (w := 25) (fuel := 19) (fun _ h => absurd h List.not_mem_nil) (by decide +kernel)
/-- X6_firstAgroundWith -/
def cc57 : CT := (90, [.inr (.inl [0]), .inl ((-2147483648), 2147483647, none)], [(some (.inl ((-2147483648), 2147483647, none)), [])])
theorem p_cc57 : CtP HC cc57 := ct_of (cts := [cc49, cc50, cc55, cc56]) (hds := []) (w := 0) (fuel := 46) (List.forall_mem_cons.mpr ⟨p_cc49, List.forall_mem_cons.mpr ⟨p_cc50, List.forall_mem_cons.mpr ⟨p_cc55, List.forall_mem_cons.mpr ⟨p_cc56, fun _ h => absurd h List.not_mem_nil⟩⟩⟩⟩) (by decide +kernel)
/-- X6_sparedEvents -/
def cc58 : CT := (56, [.inr (.inl [0])], [(some (.inl ((-2147483648), 2147483647, none)), [])])
theorem p_cc58 : CtP HC cc58 := ct_of (cts := [cc57]) (hds := [(17, [some (.inr (.inl [0])), some (.inl (0, 255, none)), some (.inl (0, 8, none)), none, none], 81, [(2, 1, 8)]), (41, [some (.inr (.inl [0])), some (.inl (0, 255, none)), some (.inl (0, 8, none)), none, none], 8, [(2, 9, 8)]), (50, [some (.inr (.inl [0])), some (.inl (0, 255, none)), some (.inl (0, 7, none)), some (.inl (1, 8, none)), none], 0, [(2, 9, 8), (3, 1, 8)])]) (w := 90) (fuel := 82) (List.forall_mem_cons.mpr ⟨p_cc57, fun _ h => absurd h List.not_mem_nil⟩) (by decide +kernel)
/-- J6_bitCount_0f7a4 -/
def cc59 : CT := (186, [.inl ((-2147483648), 2147483647, none)], [(some (.inl ((-2147483648), 2147483647, none)), [])])
theorem p_cc59 : CtP HC cc59 := ct_of (cts := []) (hds := []) (w := 0) (fuel := 44) (fun _ h => absurd h List.not_mem_nil) (by decide +kernel)
/-- X6_hasBit -/
def cc60 : CT := (83, [.inl ((-2147483648), 2147483647, none), .inl ((-2147483648), 2147483647, none)], [(some (.inl (1, 1, none)), []), (some (.inl (0, 0, none)), [])])
theorem p_cc60 : CtP HC cc60 := ct_of (cts := []) (hds := []) (w := 0) (fuel := 13) (fun _ h => absurd h List.not_mem_nil) (by decide +kernel)
/-- X6_ithBit -/
def cc61 : CT := (57, [.inl ((-2147483648), 2147483647, none), .inl ((-2147483648), 2147483647, none)], [(some (.inl ((-1), 7, none)), [])])
theorem p_cc61 : CtP HC cc61 := ct_of (cts := [cc60]) (hds := [(4, [some (.inl ((-2147483648), 2147483647, none)), some (.inl ((-2147483648), 2147483647, none)), some (.inl ((-2147483648), 2147483647, none)), some (.inl (0, 8, none))], 0, [(3, 1, 8)])]) (w := 9) (fuel := 23) (List.forall_mem_cons.mpr ⟨p_cc60, fun _ h => absurd h List.not_mem_nil⟩) (by decide +kernel)
/-- X6_spare -/
def cc62 : CT := (55, [.inr (.inl [0]), .inl ((-2147483648), 2147483647, none)], [(some (.inl ((-2147483648), 2147483647, none)), [])])
theorem p_cc62 : CtP HC cc62 := ct_of (cts := [cc58, cc59, cc61]) (hds := []) (w := 0) (fuel := 28) (List.forall_mem_cons.mpr ⟨p_cc58, List.forall_mem_cons.mpr ⟨p_cc59, List.forall_mem_cons.mpr ⟨p_cc61, fun _ h => absurd h List.not_mem_nil⟩⟩⟩) (by decide +kernel)
/-- X2_agreeWith -/
def cc63 : CT := (9, [.inr (.inl [6]), .inr (.inl [58])], [(some (.inl (0, 1, none)), [])])
theorem p_cc63 : CtP HC cc63 := ct_of (cts := []) (hds := [(2, [some (.inr (.inl [6])), some (.inr (.inl [58])), some (.inl (0, 8, none))], 0, [(2, 1, 8)])]) (w := 9) (fuel := 26) (fun _ h => absurd h List.not_mem_nil) (by decide +kernel)
/-- X6_never -/
def cc64 : CT := (60, [.inr (.inl [0])], [(some (.inl ((-2147483648), 2147483647, none)), [])])
theorem p_cc64 : CtP HC cc64 := ct_of (cts := [cc55, cc63]) (hds := [(4, [some (.inr (.inl [0])), some (.inl ((-2147483648), 2147483647, none)), some (.inl (0, 8, none))], 0, [(2, 1, 8)])]) (w := 9) (fuel := 41) (List.forall_mem_cons.mpr ⟨p_cc55, List.forall_mem_cons.mpr ⟨p_cc63, fun _ h => absurd h List.not_mem_nil⟩⟩) (by decide +kernel)
/-- X6_possiblePowers -/
def cc65 : CT := (62, [.inr (.inl [0]), .inl (0, 7, none)], [(some (.inl ((-2147483648), 2147483647, none)), [])])
theorem p_cc65 : CtP HC cc65 := ct_of (cts := [cc33, cc43, cc63]) (hds := [(9, [some (.inr (.inl [0])), some (.inl (0, 7, none)), some (.inl ((-2147483648), 2147483647, none)), some (.inl (1, 10, none))], 0, [(3, 1, 10)])]) (w := 10) (fuel := 47) (List.forall_mem_cons.mpr ⟨p_cc33, List.forall_mem_cons.mpr ⟨p_cc43, List.forall_mem_cons.mpr ⟨p_cc63, fun _ h => absurd h List.not_mem_nil⟩⟩⟩) (by decide +kernel)
/-- X6_possibleSorts -/
def cc66 : CT := (63, [.inr (.inl [0]), .inl (0, 7, none)], [(some (.inl ((-2147483648), 2147483647, none)), [])])
theorem p_cc66 : CtP HC cc66 := ct_of (cts := [cc33, cc43, cc63]) (hds := [(9, [some (.inr (.inl [0])), some (.inl (0, 7, none)), some (.inl ((-2147483648), 2147483647, none)), some (.inl (0, 3, none))], 0, [(3, 1, 3)])]) (w := 4) (fuel := 36) (List.forall_mem_cons.mpr ⟨p_cc33, List.forall_mem_cons.mpr ⟨p_cc43, List.forall_mem_cons.mpr ⟨p_cc63, fun _ h => absurd h List.not_mem_nil⟩⟩⟩) (by decide +kernel)
/-- X6_was -/
def cc67 : CT := (61, [.inr (.inl [0]), .inl ((-2147483648), 2147483647, none), .inl ((-2147483648), 2147483647, none)], [(some (.inl ((-2147483648), 2147483647, none)), [])])
theorem p_cc67 : CtP HC cc67 := ct_of (cts := [cc6, cc7, cc65, cc66]) (hds := []) (w := 0) (fuel := 22) (List.forall_mem_cons.mpr ⟨p_cc6, List.forall_mem_cons.mpr ⟨p_cc7, List.forall_mem_cons.mpr ⟨p_cc65, List.forall_mem_cons.mpr ⟨p_cc66, fun _ h => absurd h List.not_mem_nil⟩⟩⟩⟩) (by decide +kernel)
/-- J7_fill_53178 -/
def cc68 : CT := (187, [.inr (.inl [108]), .inl ((-2147483648), 2147483647, none)], [(none, [])])
theorem p_cc68 : CtP HC cc68 := ct_of (cts := []) (hds := [(5, [some (.inr (.inl [108])), some (.inl ((-2147483648), 2147483647, none)), some (.inl (0, 21, none)), some (.inl (21, 21, none))], 0, [(2, 1, 21)])]) (w := 22) (fuel := 17) (fun _ h => absurd h List.not_mem_nil) (by decide +kernel)
/-- X6_mostAtOnePlace -/
def cc69 : CT := (65, [.inr (.inl [0]), .inl ((-2147483648), 2147483647, none), .inl (0, 23, none)], [(some (.inl (0, 2147483647, none)), [])])
theorem p_cc69 : CtP HC cc69 := ct_of (cts := [cc60, cc68]) (hds := [(8, [some (.inr (.inl [0])), some (.inl ((-2147483648), 2147483647, none)), some (.inl (0, 23, none)), some (.inl (0, 2147483647, none)), some (.inl (1, 10, none)), none], 0, [(4, 1, 10)])]) (w := 10) (fuel := 43) (List.forall_mem_cons.mpr ⟨p_cc60, List.forall_mem_cons.mpr ⟨p_cc68, fun _ h => absurd h List.not_mem_nil⟩⟩) (by decide +kernel)
/-- X6_ask -/
def cc70 : CT := (64, [.inr (.inl [0]), .inl ((-2147483648), 2147483647, none)], [(some (.inl ((-2), 23, none)), [])])
theorem p_cc70 : CtP HC cc70 := ct_of (cts := [cc6, cc65, cc69]) (hds := [(16, [some (.inr (.inl [0])), some (.inl (0, 7, none)), some (.inl ((-2147483648), 2147483647, none)), some (.inl (0, 23, none)), some (.inl (0, 2147483647, none)), some (.inl (0, 24, none)), none], 0, [(5, 1, 24)])]) (w := 25) (fuel := 37) (List.forall_mem_cons.mpr ⟨p_cc6, List.forall_mem_cons.mpr ⟨p_cc65, List.forall_mem_cons.mpr ⟨p_cc69, fun _ h => absurd h List.not_mem_nil⟩⟩⟩) (by decide +kernel)
/-- X6_isBelow -/
def cc71 : CT := (82, [.inl ((-2147483648), 2147483647, none), .inl (17, 17, none)], [(some (.inl (1, 1, none)), [(0, 0, 16)]), (some (.inl (0, 0, none)), [])])
theorem p_cc71 : CtP HC cc71 := ct_of (cts := []) (hds := []) (w := 0) (fuel := 11) (fun _ h => absurd h List.not_mem_nil) (by decide +kernel)
/-- X6_weightOf -/
def cc72 : CT := (67, [.inr (.inl [0]), .inl ((-2147483648), 2147483647, none), .inl ((-2147483648), 2147483647, none)], [(some (.inr (.inr 0)), [])])
theorem p_cc72 : CtP HC cc72 := ct_of (cts := [cc60]) (hds := [(4, [some (.inr (.inl [0])), some (.inl ((-2147483648), 2147483647, none)), some (.inl ((-2147483648), 2147483647, none)), some (.inr (.inr 0)), none, some (.inl (0, 8, none))], 0, [(5, 1, 8)])]) (w := 9) (fuel := 29) (List.forall_mem_cons.mpr ⟨p_cc60, fun _ h => absurd h List.not_mem_nil⟩) (by decide +kernel)
/-- X6_isAgroundBy -/
def cc73 : CT := (68, [.inr (.inl [0]), .inl ((-2147483648), 2147483647, none), .inl ((-2147483648), 2147483647, none)], [(some (.inl (1, 1, none)), []), (some (.inl (0, 0, none)), [])])
theorem p_cc73 : CtP HC cc73 := ct_of (cts := [cc57]) (hds := []) (w := 0) (fuel := 16) (List.forall_mem_cons.mpr ⟨p_cc57, fun _ h => absurd h List.not_mem_nil⟩) (by decide +kernel)
/-- X6_chance -/
def cc74 : CT := (66, [.inr (.inl [0]), .inl ((-2147483648), 2147483647, none), .inl ((-2147483648), 2147483647, none), .inl ((-2147483648), 2147483647, none)], [(some (.inr (.inr 0)), [])])
theorem p_cc74 : CtP HC cc74 := ct_of (cts := [cc7, cc9, cc71, cc72, cc73]) (hds := [(18, [some (.inr (.inl [0])), some (.inl (0, 16, none)), some (.inl (0, 23, none)), some (.inl (0, 1, none)), some (.inr (.inr 0)), none, some (.inl (0, 256, none)), none, none], 33, [(6, 1, 256)]), (55, [some (.inr (.inl [0])), some (.inl (0, 16, none)), some (.inl (0, 23, none)), some (.inl (0, 1, none)), some (.inr (.inr 0)), none, some (.inr (.inr 0)), none, some (.inl (0, 32, none))], 0, [(8, 1, 32)])]) (w := 290) (fuel := 86) (List.forall_mem_cons.mpr ⟨p_cc7, List.forall_mem_cons.mpr ⟨p_cc9, List.forall_mem_cons.mpr ⟨p_cc71, List.forall_mem_cons.mpr ⟨p_cc72, List.forall_mem_cons.mpr ⟨p_cc73, fun _ h => absurd h List.not_mem_nil⟩⟩⟩⟩⟩) (by decide +kernel)
/-- X6_isBelow -/
def cc75 : CT := (82, [.inl ((-2147483648), 2147483647, none), .inl (25, 25, none)], [(some (.inl (1, 1, none)), [(0, 0, 24)]), (some (.inl (0, 0, none)), [])])
theorem p_cc75 : CtP HC cc75 := ct_of (cts := []) (hds := []) (w := 0) (fuel := 11) (fun _ h => absurd h List.not_mem_nil) (by decide +kernel)
/-- X6_years -/
def cc76 : CT := (69, [.inr (.inl [0]), .inl ((-2147483648), 2147483647, none), .inl ((-2147483648), 2147483647, none), .inl ((-2147483648), 2147483647, none)], [(some (.inl ((-2147483648), 2147483647, none)), [])])
theorem p_cc76 : CtP HC cc76 := ct_of (cts := [cc7, cc33, cc43, cc75]) (hds := [(19, [some (.inr (.inl [0])), some (.inl ((-2147483648), 2147483647, none)), some (.inl (0, 24, none)), some (.inl (0, 1, none)), some (.inl ((-2147483648), 2147483647, none)), some (.inl (0, 24, none))], 0, [(5, 1, 24)])]) (w := 25) (fuel := 62) (List.forall_mem_cons.mpr ⟨p_cc7, List.forall_mem_cons.mpr ⟨p_cc33, List.forall_mem_cons.mpr ⟨p_cc43, List.forall_mem_cons.mpr ⟨p_cc75, fun _ h => absurd h List.not_mem_nil⟩⟩⟩⟩) (by decide +kernel)
/-- X6_count -/
def cc77 : CT := (76, [.inr (.inl [0]), .inl ((-2147483648), 2147483647, none)], [(some (.inl ((-2147483648), 2147483647, none)), [])])
theorem p_cc77 : CtP HC cc77 := ct_of (cts := [cc4]) (hds := []) (w := 0) (fuel := 73) (List.forall_mem_cons.mpr ⟨p_cc4, fun _ h => absurd h List.not_mem_nil⟩) (by decide +kernel)
/-- X6_addMinutes -/
def cc78 : CT := (78, [.inr (.inl [0]), .inr (.inr 0)], [(some (.inr (.inr 0)), [])])
theorem p_cc78 : CtP HC cc78 := ct_of (cts := [cc10, cc21]) (hds := [(4, [some (.inr (.inl [0])), some (.inr (.inr 0)), none, some (.inr (.inr 0)), none, some (.inl (0, 24, none)), none], 6, [(5, 7, 24)]), (29, [some (.inr (.inl [0])), some (.inr (.inr 0)), none, some (.inr (.inr 0)), none, some (.inl (0, 23, none)), some (.inl (0, 5, none))], 0, [(5, 7, 24), (6, 1, 5)])]) (w := 175) (fuel := 50) (List.forall_mem_cons.mpr ⟨p_cc10, List.forall_mem_cons.mpr ⟨p_cc21, fun _ h => absurd h List.not_mem_nil⟩⟩) (by decide +kernel)
/-- X6_addRower -/
def cc79 : CT := (79, [.inr (.inl [0]), .inr (.inr 0), .inl ((-2147483648), 2147483647, none)], [(some (.inr (.inr 0)), [])])
theorem p_cc79 : CtP HC cc79 := ct_of (cts := [cc8, cc22, cc23, cc67, cc70]) (hds := []) (w := 0) (fuel := 103) (List.forall_mem_cons.mpr ⟨p_cc8, List.forall_mem_cons.mpr ⟨p_cc22, List.forall_mem_cons.mpr ⟨p_cc23, List.forall_mem_cons.mpr ⟨p_cc67, List.forall_mem_cons.mpr ⟨p_cc70, fun _ h => absurd h List.not_mem_nil⟩⟩⟩⟩⟩) (by decide +kernel)
/-- X6_addPlans -/
def cc80 : CT := (80, [.inr (.inl [0]), .inr (.inr 0), .inl ((-2147483648), 2147483647, none)], [(some (.inr (.inr 0)), [])])
theorem p_cc80 : CtP HC cc80 := ct_of (cts := [cc47, cc48, cc74]) (hds := []) (w := 0) (fuel := 64) (List.forall_mem_cons.mpr ⟨p_cc47, List.forall_mem_cons.mpr ⟨p_cc48, List.forall_mem_cons.mpr ⟨p_cc74, fun _ h => absurd h List.not_mem_nil⟩⟩⟩) (by decide +kernel)
/-- X6_addWhole -/
def cc81 : CT := (81, [.inr (.inl [0]), .inr (.inr 0)], [(some (.inr (.inr 0)), [])])
theorem p_cc81 : CtP HC cc81 := ct_of (cts := [cc24, cc27, cc30, cc31, cc32, cc45, cc62, cc64, cc76]) (hds := []) (w := 0) (fuel := 139) (List.forall_mem_cons.mpr ⟨p_cc24, List.forall_mem_cons.mpr ⟨p_cc27, List.forall_mem_cons.mpr ⟨p_cc30, List.forall_mem_cons.mpr ⟨p_cc31, List.forall_mem_cons.mpr ⟨p_cc32, List.forall_mem_cons.mpr ⟨p_cc45, List.forall_mem_cons.mpr ⟨p_cc62, List.forall_mem_cons.mpr ⟨p_cc64, List.forall_mem_cons.mpr ⟨p_cc76, fun _ h => absurd h List.not_mem_nil⟩⟩⟩⟩⟩⟩⟩⟩⟩) (by decide +kernel)
/-- X6_digest -/
def cc82 : CT := (77, [.inr (.inl [0])], [(some (.inr (.inr 0)), [])])
theorem p_cc82 : CtP HC cc82 := ct_of (cts := [cc4, cc77, cc78, cc79, cc80, cc81]) (hds := [(4, [some (.inr (.inl [0])), some (.inr (.inr 0)), none, some (.inl (0, 8, none))], 13, [(3, 1, 8)]), (20, [some (.inr (.inl [0])), some (.inr (.inr 0)), none, some (.inl (0, 3, none))], 9, [(3, 1, 3)]), (40, [some (.inr (.inl [0])), some (.inr (.inr 0)), none, some (.inl (0, 8, none))], 0, [(3, 1, 8)])]) (w := 22) (fuel := 68) (List.forall_mem_cons.mpr ⟨p_cc4, List.forall_mem_cons.mpr ⟨p_cc77, List.forall_mem_cons.mpr ⟨p_cc78, List.forall_mem_cons.mpr ⟨p_cc79, List.forall_mem_cons.mpr ⟨p_cc80, List.forall_mem_cons.mpr ⟨p_cc81, fun _ h => absurd h List.not_mem_nil⟩⟩⟩⟩⟩⟩) (by decide +kernel)
