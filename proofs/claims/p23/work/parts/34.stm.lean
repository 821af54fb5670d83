/-! the model: river, forget, sheet, lose, put, get, write: the texts stay as they are (printed by wip/p1/setters.py) -/
def HMs : AH := [.inr (.inl (99, [])), .inr (.inl (99, [])), .inr (.inl (99, [])), .inr (.inl (99, [])), .inr (.inl (99, [])), .inr (.inl (99, [])), .inr (.inl (99, [])), .inr (.inl (99, [])), .inr (.inl (99, [])), .inr (.inl (99, [])), .inr (.inl (99, [])), .inr (.inl (99, [])), .inr (.inl (99, [])), .inr (.inl (99, [])), .inr (.inl (99, [])), .inr (.inl (99, [])), .inr (.inl (99, [])), .inr (.inl (99, [])), .inr (.inl (99, [])), .inr (.inl (99, [])), .inr (.inl (99, [])), .inr (.inl (99, [])), .inr (.inl (99, [])), .inr (.inl (99, [])), .inr (.inl (99, [])), .inr (.inl (99, [])), .inr (.inl (99, [])), .inr (.inl (99, [])), .inr (.inl (99, [])), .inr (.inl (99, [])), .inr (.inl (99, [])), .inr (.inl (99, [])), .inr (.inl (99, [])), .inr (.inl (99, [])), .inr (.inl (99, [])), .inr (.inl (99, [])), .inr (.inl (99, [])), .inr (.inl (99, [])), .inr (.inl (99, [])), .inr (.inl (99, [])), .inr (.inl (99, [])), .inr (.inl (99, [])), .inr (.inl (99, [])), .inr (.inl (99, [])), .inr (.inl (99, [])), .inr (.inl (99, [])), .inr (.inl (99, [])), .inr (.inl (99, [])), .inr (.inl (99, [])), .inr (.inl (99, [])), .inr (.inl (99, [])), .inr (.inl (99, [])), .inr (.inl (99, [])), .inr (.inl (99, [])), .inr (.inl (99, [])), .inr (.inl (99, [])), .inr (.inl (99, [])), .inr (.inl (99, [])), .inr (.inl (99, [])), .inr (.inl (99, [])), .inr (.inl (99, [])), .inr (.inl (99, [])), .inr (.inl (99, [])), .inr (.inl (99, [])), .inr (.inl (99, [])), .inr (.inl (99, [])), .inr (.inl (99, [])), .inr (.inl (99, [])), .inr (.inl (99, [])), .inr (.inl (99, [])), .inr (.inl (99, [])), .inr (.inl (99, [])), .inr (.inl (99, [])), .inr (.inl (99, [])), .inr (.inl (99, [])), .inr (.inl (99, [])), .inr (.inl (99, [])), .inr (.inl (99, [])), .inr (.inl (99, [])), .inr (.inl (99, [])), .inr (.inl (99, [])), .inr (.inl (99, [])), .inr (.inl (99, [])), .inr (.inl (99, [])), .inr (.inl (99, [])), .inr (.inl (99, [])), .inr (.inl (99, [])), .inr (.inl (99, [])), .inr (.inl (99, [])), .inr (.inl (99, [])), .inr (.inl (99, [])), .inr (.inl (99, [])), .inr (.inl (99, [])), .inr (.inl (99, [])), .inr (.inl (99, [])), .inr (.inl (99, [])), .inr (.inl (99, [])), .inr (.inl (99, [])), .inr (.inl (99, [])), .inr (.inl (99, [])), .inr (.inl (99, [])), .inr (.inl (99, [])), .inr (.inl (99, [])), .inr (.inl (99, [])), .inr (.inl (99, [])), .inr (.inl (99, [])), .inr (.inl (99, [])), .inr (.inl (99, [])), .inr (.inl (99, [])), .inr (.inl (99, [])), .inr (.inl (99, [])), .inr (.inl (99, [])), .inr (.inl (99, [])), .inr (.inl (99, [])), .inr (.inl (99, [])), .inr (.inl (99, [])), .inr (.inl (99, [])), .inr (.inl (99, [])), .inr (.inl (99, [])), .inr (.inl (99, [])), .inr (.inl (99, [])), .inr (.inl (99, [])), .inr (.inl (99, [])), .inr (.inr (7, [.inl 124, .inl 125, .inr (0, 8, false), .inl 126, .inl 127, .inr ((-2147483648), 2147483647, false), .inl 128, .inr ((-2147483648), 2147483647, false), .inl 129, .inr ((-2147483648), 2147483647, false), .inr ((-2147483648), 2147483647, false), .inr (0, 8, false), .inl 130, .inl 131, .inl 132, .inl 133, .inl 134, .inr ((-2147483648), 2147483647, false), .inl 135, .inr ((-2147483648), 2147483647, false), .inr ((-2147483648), 2147483647, false), .inr ((-2147483648), 2147483647, false), .inr ((-2147483648), 2147483647, false), .inr ((-2147483648), 2147483647, false), .inr ((-2147483648), 2147483647, false), .inr ((-2147483648), 2147483647, false), .inr ((-2147483648), 2147483647, false), .inr ((-2147483648), 2147483647, false), .inl 136, .inl 137, .inl 138, .inl 139, .inl 140, .inl 141, .inl 142, .inl 143, .inl 144, .inr (0, 8, false), .inl 145, .inl 146, .inl 147, .inl 148, .inl 149, .inl 150, .inl 151, .inl 152, .inr ((-2147483648), 2147483647, false)])), .inl (0, 3, 0, 24, true), .inl (0, 72, (-2147483648), 2147483647, true), .inl (0, 9, (-2147483648), 2147483647, false), .inl (0, 9, (-2147483648), 2147483647, false), .inl (0, 24, (-2147483648), 2147483647, false), .inl (0, 24, (-2147483648), 2147483647, false), .inl (0, 8, (-2147483648), 2147483647, false), .inl (0, 8, (-2147483648), 2147483647, false), .inl (0, 8, (-2147483648), 2147483647, false), .inl (0, 24, (-2147483648), 2147483647, false), .inl (0, 24, (-2147483648), 2147483647, false), .inl (0, 8, 0, 7, false), .inl (0, 2, (-2147483648), 2147483647, false), .inl (0, 8, (-2147483648), 2147483647, false), .inl (0, 8, (-2147483648), 2147483647, false), .inl (0, 24, (-2147483648), 2147483647, false), .inl (0, 24, (-2147483648), 2147483647, false), .inl (0, 48, (-2147483648), 2147483647, false), .inl (0, 24, (-2147483648), 2147483647, false), .inl (0, 192, (-2147483648), 2147483647, false), .inl (0, 2, (-2147483648), 2147483647, false), .inl (0, 8, 0, 23, false), .inl (0, 8, (-2147483648), 2147483647, false), .inl (0, 240, (-2147483648), 2147483647, false), .inl (1, 4, 0, 1, false), .inl (0, 4, (-2147483648), 2147483647, false), .inl (0, 4, 0, 60, false), .inl (0, 240, (-2147483648), 2147483647, false), .inl (0, 60, (-2147483648), 2147483647, false)]
/-- X7_in -/
def sm0 : CT := (92, [.inl ((-2147483648), 2147483647, none), .inl (0, 0, none), .inl (1, 1, none)], [(some (.inl (1, 1, none)), [(0, 0, 1)]), (some (.inl (0, 0, none)), [])])
theorem p_sm0 : CtP HMs sm0 := ct_of (cts := []) (hds := []) (w := 0) (fuel := 12) (fun _ h => absurd h List.not_mem_nil) (by decide +kernel)
/-- X7_isTwo -/
def sm1 : CT := (98, [.inl ((-2147483648), 2147483647, none)], [(some (.inl (1, 1, none)), [(0, 0, 1)]), (some (.inl (0, 0, none)), [])])
theorem p_sm1 : CtP HMs sm1 := ct_of (cts := [sm0]) (hds := []) (w := 0) (fuel := 7) (List.forall_mem_cons.mpr ⟨p_sm0, fun _ h => absurd h List.not_mem_nil⟩) (by decide +kernel)
/-- X7_in -/
def sm2 : CT := (92, [.inl ((-2147483648), 2147483647, none), .inl (0, 0, none), .inl (9, 9, none)], [(some (.inl (1, 1, none)), [(0, 0, 9)]), (some (.inl (0, 0, none)), [])])
theorem p_sm2 : CtP HMs sm2 := ct_of (cts := []) (hds := []) (w := 0) (fuel := 12) (fun _ h => absurd h List.not_mem_nil) (by decide +kernel)
/-- X7_in -/
def sm3 : CT := (92, [.inl ((-2147483648), 2147483647, none), .inl (50, 50, none), .inl (999, 999, none)], [(some (.inl (1, 1, none)), [(0, 50, 999)]), (some (.inl (0, 0, none)), [])])
theorem p_sm3 : CtP HMs sm3 := ct_of (cts := []) (hds := []) (w := 0) (fuel := 12) (fun _ h => absurd h List.not_mem_nil) (by decide +kernel)
/-- X7_river -/
def sm4 : CT := (118, [.inr (.inl [123]), .inl ((-2147483648), 2147483647, none), .inl ((-2147483648), 2147483647, none)], [(some (.inl ((-2147483648), 2147483647, none)), [])])
theorem p_sm4 : CtP HMs sm4 := ct_of (cts := [sm1, sm2, sm3]) (hds := []) (w := 0) (fuel := 49) (List.forall_mem_cons.mpr ⟨p_sm1, List.forall_mem_cons.mpr ⟨p_sm2, List.forall_mem_cons.mpr ⟨p_sm3, fun _ h => absurd h List.not_mem_nil⟩⟩⟩) (by decide +kernel)
/-- X7_forget -/
def sm5 : CT := (157, [.inr (.inl [123])], [(some (.inl (0, 8, none)), [])])
theorem p_sm5 : CtP HMs sm5 := ct_of (cts := []) (hds := []) (w := 0) (fuel := 10) (fun _ h => absurd h List.not_mem_nil) (by decide +kernel)
/-- X7_in -/
def sm6 : CT := (92, [.inl ((-2147483648), 2147483647, none), .inl (0, 0, none), .inl (3, 3, none)], [(some (.inl (1, 1, none)), [(0, 0, 3)]), (some (.inl (0, 0, none)), [])])
theorem p_sm6 : CtP HMs sm6 := ct_of (cts := []) (hds := []) (w := 0) (fuel := 12) (fun _ h => absurd h List.not_mem_nil) (by decide +kernel)
/-- X7_isSheet -/
def sm7 : CT := (171, [.inl ((-2147483648), 2147483647, none)], [(some (.inl (1, 1, none)), [(0, 0, 3)]), (some (.inl (0, 0, none)), [])])
theorem p_sm7 : CtP HMs sm7 := ct_of (cts := [sm6]) (hds := []) (w := 0) (fuel := 7) (List.forall_mem_cons.mpr ⟨p_sm6, fun _ h => absurd h List.not_mem_nil⟩) (by decide +kernel)
/-- X7_in -/
def sm8 : CT := (92, [.inl ((-2147483648), 2147483647, none), .inl (0, 0, none), .inl (2, 2, none)], [(some (.inl (1, 1, none)), [(0, 0, 2)]), (some (.inl (0, 0, none)), [])])
theorem p_sm8 : CtP HMs sm8 := ct_of (cts := []) (hds := []) (w := 0) (fuel := 12) (fun _ h => absurd h List.not_mem_nil) (by decide +kernel)
/-- X7_meets -/
def sm9 : CT := (170, [.inr (.inl [123]), .inl ((-2147483648), 2147483647, none)], [(some (.inl ((-2147483648), 2147483647, none)), [])])
theorem p_sm9 : CtP HMs sm9 := ct_of (cts := []) (hds := []) (w := 0) (fuel := 9) (fun _ h => absurd h List.not_mem_nil) (by decide +kernel)
/-- X7_sheet -/
def sm10 : CT := (172, [.inr (.inl [123]), .inl ((-2147483648), 2147483647, none), .inl ((-2147483648), 2147483647, none), .inl ((-2147483648), 2147483647, none)], [(some (.inl ((-2147483648), 2147483647, none)), [])])
theorem p_sm10 : CtP HMs sm10 := ct_of (cts := [sm7, sm8, sm9]) (hds := [(36, [some (.inr (.inl [123])), some (.inl (0, 3, none)), some (.inl (0, 2, none)), some (.inl (0, 60, none)), some (.inl (0, 60, none))], 0, [(4, 1, 60)])]) (w := 61) (fuel := 54) (List.forall_mem_cons.mpr ⟨p_sm7, List.forall_mem_cons.mpr ⟨p_sm8, List.forall_mem_cons.mpr ⟨p_sm9, fun _ h => absurd h List.not_mem_nil⟩⟩⟩) (by decide +kernel)
/-- X7_lose -/
def sm11 : CT := (173, [.inr (.inl [123]), .inl ((-2147483648), 2147483647, none)], [(some (.inl ((-2147483648), 2147483647, none)), [])])
theorem p_sm11 : CtP HMs sm11 := ct_of (cts := [sm7, sm9]) (hds := []) (w := 0) (fuel := 26) (List.forall_mem_cons.mpr ⟨p_sm7, List.forall_mem_cons.mpr ⟨p_sm9, fun _ h => absurd h List.not_mem_nil⟩⟩) (by decide +kernel)
/-- X7_in -/
def sm12 : CT := (92, [.inl ((-2147483648), 2147483647, none), .inl (0, 0, none), .inl ((-1), 59, none)], [(some (.inl (1, 1, none)), [(0, 0, 59), (2, 0, 59)]), (some (.inl (0, 0, none)), [])])
theorem p_sm12 : CtP HMs sm12 := ct_of (cts := []) (hds := []) (w := 0) (fuel := 12) (fun _ h => absurd h List.not_mem_nil) (by decide +kernel)
/-- X7_lacks -/
def sm13 : CT := (174, [.inr (.inl [123]), .inl (0, 3, none), .inl ((-2147483648), 2147483647, none), .inl ((-2147483648), 2147483647, none)], [(some (.inl (1, 1, none)), []), (some (.inl (3, 3, none)), []), (some (.inl (2, 2, none)), []), (some (.inl (0, 0, none)), [(3, 0, 59)])])
theorem p_sm13 : CtP HMs sm13 := ct_of (cts := [sm12]) (hds := []) (w := 0) (fuel := 31) (List.forall_mem_cons.mpr ⟨p_sm12, fun _ h => absurd h List.not_mem_nil⟩) (by decide +kernel)
/-- X7_keep -/
def sm14 : CT := (175, [.inr (.inl [123]), .inl (0, 3, none), .inl (0, 59, none), .inl ((-2147483648), 2147483647, none)], [(none, [])])
theorem p_sm14 : CtP HMs sm14 := ct_of (cts := []) (hds := []) (w := 0) (fuel := 29) (fun _ h => absurd h List.not_mem_nil) (by decide +kernel)
/-- X7_put -/
def sm15 : CT := (176, [.inr (.inl [123]), .inl ((-2147483648), 2147483647, none), .inl ((-2147483648), 2147483647, none), .inl ((-2147483648), 2147483647, none), .inl ((-2147483648), 2147483647, none)], [(some (.inl ((-2147483648), 2147483647, none)), [])])
theorem p_sm15 : CtP HMs sm15 := ct_of (cts := [sm7, sm8, sm9, sm13, sm14]) (hds := []) (w := 0) (fuel := 31) (List.forall_mem_cons.mpr ⟨p_sm7, List.forall_mem_cons.mpr ⟨p_sm8, List.forall_mem_cons.mpr ⟨p_sm9, List.forall_mem_cons.mpr ⟨p_sm13, List.forall_mem_cons.mpr ⟨p_sm14, fun _ h => absurd h List.not_mem_nil⟩⟩⟩⟩⟩) (by decide +kernel)
/-- X7_get -/
def sm16 : CT := (177, [.inr (.inl [123]), .inl ((-2147483648), 2147483647, none), .inl ((-2147483648), 2147483647, none), .inl ((-2147483648), 2147483647, none)], [(some (.inl ((-2147483648), 2147483647, none)), [])])
theorem p_sm16 : CtP HMs sm16 := ct_of (cts := [sm7, sm8, sm13]) (hds := []) (w := 0) (fuel := 34) (List.forall_mem_cons.mpr ⟨p_sm7, List.forall_mem_cons.mpr ⟨p_sm8, List.forall_mem_cons.mpr ⟨p_sm13, fun _ h => absurd h List.not_mem_nil⟩⟩⟩) (by decide +kernel)
/-- X7_byteAt -/
def sm17 : CT := (104, [.inr (.inl [123]), .inl (0, 2, none), .inl (0, 2147483647, none)], [(some (.inl ((-2147483648), 2147483647, none)), [(2, 0, 23)]), (some (.inl ((-1), (-1), none)), [])])
theorem p_sm17 : CtP HMs sm17 := ct_of (cts := []) (hds := []) (w := 0) (fuel := 19) (fun _ h => absurd h List.not_mem_nil) (by decide +kernel)
/-- X7_in -/
def sm18 : CT := (92, [.inl ((-2147483648), 2147483647, none), .inl (1, 1, none), .inl (9, 9, none)], [(some (.inl (1, 1, none)), [(0, 1, 9)]), (some (.inl (0, 0, none)), [])])
theorem p_sm18 : CtP HMs sm18 := ct_of (cts := []) (hds := []) (w := 0) (fuel := 12) (fun _ h => absurd h List.not_mem_nil) (by decide +kernel)
/-- X7_readsRower -/
def sm19 : CT := (105, [.inr (.inl [123]), .inl (0, 8, none), .inl (0, 1000, none)], [(some (.inl (0, 0, none)), []), (some (.inl (1, 1, none)), [(1, 0, 7), (2, 0, 23)]), (some (.inl (2, 2, none)), [(1, 0, 7), (2, 0, 23)])])
theorem p_sm19 : CtP HMs sm19 := ct_of (cts := [sm17, sm18]) (hds := []) (w := 0) (fuel := 60) (List.forall_mem_cons.mpr ⟨p_sm17, List.forall_mem_cons.mpr ⟨p_sm18, fun _ h => absurd h List.not_mem_nil⟩⟩) (by decide +kernel)
/-- X7_readsCrew -/
def sm20 : CT := (106, [.inr (.inl [123])], [(some (.inl ((-1), 25, none)), [])])
theorem p_sm20 : CtP HMs sm20 := ct_of (cts := [sm17, sm19]) (hds := [(7, [some (.inr (.inl [123])), some (.inl (0, 8, none)), some (.inl (0, 24, none)), none], 0, [(1, 1, 8)])]) (w := 9) (fuel := 54) (List.forall_mem_cons.mpr ⟨p_sm17, List.forall_mem_cons.mpr ⟨p_sm19, fun _ h => absurd h List.not_mem_nil⟩⟩) (by decide +kernel)
/-- X7_in -/
def sm21 : CT := (92, [.inl ((-2147483648), 2147483647, none), .inl (48, 48, none), .inl (51, 51, none)], [(some (.inl (1, 1, none)), [(0, 48, 51)]), (some (.inl (0, 0, none)), [])])
theorem p_sm21 : CtP HMs sm21 := ct_of (cts := []) (hds := []) (w := 0) (fuel := 12) (fun _ h => absurd h List.not_mem_nil) (by decide +kernel)
/-- X7_readsRates -/
def sm22 : CT := (107, [.inr (.inl [123])], [(some (.inl ((-1), 23, none)), [])])
theorem p_sm22 : CtP HMs sm22 := ct_of (cts := [sm17, sm21]) (hds := [(5, [some (.inr (.inl [123])), some (.inl (0, 24, none))], 50, [(1, 1, 24)]), (17, [some (.inr (.inl [123])), some (.inl (0, 24, none))], 25, [(1, 1, 24)]), (37, [some (.inr (.inl [123])), some (.inl (0, 24, none))], 0, [(1, 1, 24)])]) (w := 75) (fuel := 65) (List.forall_mem_cons.mpr ⟨p_sm17, List.forall_mem_cons.mpr ⟨p_sm21, fun _ h => absurd h List.not_mem_nil⟩⟩) (by decide +kernel)
/-- X7_rudderBy -/
def sm23 : CT := (108, [.inl ((-2147483648), 2147483647, none)], [(some (.inl ((-1), 2, none)), [])])
theorem p_sm23 : CtP HMs sm23 := ct_of (cts := []) (hds := []) (w := 0) (fuel := 19) (fun _ h => absurd h List.not_mem_nil) (by decide +kernel)
/-- X7_readsRudder -/
def sm24 : CT := (109, [.inr (.inl [123])], [(some (.inl ((-1), 23, none)), [])])
theorem p_sm24 : CtP HMs sm24 := ct_of (cts := [sm17, sm23]) (hds := [(5, [some (.inr (.inl [123])), some (.inl (0, 24, none))], 50, [(1, 1, 24)]), (17, [some (.inr (.inl [123])), some (.inl (0, 24, none))], 25, [(1, 1, 24)]), (36, [some (.inr (.inl [123])), some (.inl (0, 24, none))], 0, [(1, 1, 24)])]) (w := 75) (fuel := 63) (List.forall_mem_cons.mpr ⟨p_sm17, List.forall_mem_cons.mpr ⟨p_sm23, fun _ h => absurd h List.not_mem_nil⟩⟩) (by decide +kernel)
/-- X7_faultOf -/
def sm25 : CT := (110, [.inr (.inl [123]), .inl ((-2147483648), 2147483647, none)], [(some (.inl ((-1), 25, none)), [])])
theorem p_sm25 : CtP HMs sm25 := ct_of (cts := [sm20, sm22, sm24]) (hds := []) (w := 0) (fuel := 22) (List.forall_mem_cons.mpr ⟨p_sm20, List.forall_mem_cons.mpr ⟨p_sm22, List.forall_mem_cons.mpr ⟨p_sm24, fun _ h => absurd h List.not_mem_nil⟩⟩⟩) (by decide +kernel)
/-- X7_reads -/
def sm26 : CT := (111, [.inr (.inl [123])], [(none, [])])
theorem p_sm26 : CtP HMs sm26 := ct_of (cts := [sm25]) (hds := []) (w := 0) (fuel := 7) (List.forall_mem_cons.mpr ⟨p_sm25, fun _ h => absurd h List.not_mem_nil⟩) (by decide +kernel)
/-- X7_asTold -/
def sm27 : CT := (122, [.inr (.inl [123])], [(none, [])])
theorem p_sm27 : CtP HMs sm27 := ct_of (cts := [sm26]) (hds := [(4, [some (.inr (.inl [123])), some (.inl (0, 24, none))], 9, [(1, 1, 24)]), (30, [some (.inr (.inl [123])), some (.inl (0, 8, none))], 0, [(1, 1, 8)])]) (w := 34) (fuel := 43) (List.forall_mem_cons.mpr ⟨p_sm26, fun _ h => absurd h List.not_mem_nil⟩) (by decide +kernel)
/-- X7_isIn -/
def sm28 : CT := (93, [.inl ((-2147483648), 2147483647, none), .inl ((-2147483648), 2147483647, none)], [(some (.inl (1, 1, none)), []), (some (.inl (0, 0, none)), [])])
theorem p_sm28 : CtP HMs sm28 := ct_of (cts := []) (hds := []) (w := 0) (fuel := 13) (fun _ h => absurd h List.not_mem_nil) (by decide +kernel)
/-- X7_befalls -/
def sm29 : CT := (123, [.inr (.inl [123]), .inl ((-2147483648), 2147483647, none)], [(none, [])])
theorem p_sm29 : CtP HMs sm29 := ct_of (cts := [sm28]) (hds := [(11, [some (.inr (.inl [123])), some (.inl ((-2147483648), 2147483647, none)), some (.inl (0, 8, none))], 0, [(2, 1, 8)])]) (w := 9) (fuel := 87) (List.forall_mem_cons.mpr ⟨p_sm28, fun _ h => absurd h List.not_mem_nil⟩) (by decide +kernel)
/-- X7_pullsOne -/
def sm30 : CT := (124, [.inr (.inl [123]), .inl (0, 23, none), .inl (0, 7, none)], [(none, [])])
theorem p_sm30 : CtP HMs sm30 := ct_of (cts := []) (hds := []) (w := 0) (fuel := 84) (fun _ h => absurd h List.not_mem_nil) (by decide +kernel)
/-- X7_goes -/
def sm31 : CT := (125, [.inr (.inl [123]), .inl (0, 23, none)], [(none, [])])
theorem p_sm31 : CtP HMs sm31 := ct_of (cts := [sm28, sm30]) (hds := [(7, [some (.inr (.inl [123])), some (.inl (0, 23, none)), some (.inl ((-2147483648), 2147483647, none)), some (.inl (0, 8, none)), none, none], 0, [(3, 1, 8)])]) (w := 9) (fuel := 187) (List.forall_mem_cons.mpr ⟨p_sm28, List.forall_mem_cons.mpr ⟨p_sm30, fun _ h => absurd h List.not_mem_nil⟩⟩) (by decide +kernel)
/-- X7_goesBy -/
def sm32 : CT := (126, [.inr (.inl [123]), .inl (0, 23, none)], [(none, [])])
theorem p_sm32 : CtP HMs sm32 := ct_of (cts := [sm29, sm31]) (hds := [(20, [some (.inr (.inl [123])), some (.inl (0, 23, none)), some (.inl (0, 8, none))], 0, [(2, 1, 8)])]) (w := 9) (fuel := 102) (List.forall_mem_cons.mpr ⟨p_sm29, List.forall_mem_cons.mpr ⟨p_sm31, fun _ h => absurd h List.not_mem_nil⟩⟩) (by decide +kernel)
/-- X7_runs -/
def sm33 : CT := (127, [.inr (.inl [123])], [(none, [])])
theorem p_sm33 : CtP HMs sm33 := ct_of (cts := [sm32]) (hds := [(20, [some (.inr (.inl [123])), some (.inl (0, 8, none))], 25, [(1, 1, 8)]), (37, [some (.inr (.inl [123])), some (.inl (0, 24, none))], 0, [(1, 1, 24)])]) (w := 34) (fuel := 48) (List.forall_mem_cons.mpr ⟨p_sm32, fun _ h => absurd h List.not_mem_nil⟩) (by decide +kernel)
/-- X7_runsTold -/
def sm34 : CT := (128, [.inr (.inl [123])], [(none, [])])
theorem p_sm34 : CtP HMs sm34 := ct_of (cts := [sm27, sm33]) (hds := []) (w := 0) (fuel := 7) (List.forall_mem_cons.mpr ⟨p_sm27, List.forall_mem_cons.mpr ⟨p_sm33, fun _ h => absurd h List.not_mem_nil⟩⟩) (by decide +kernel)
/-- X7_write -/
def sm35 : CT := (179, [.inr (.inl [123]), .inl ((-2147483648), 2147483647, none), .inl ((-2147483648), 2147483647, none)], [(some (.inl ((-2147483648), 2147483647, none)), [])])
theorem p_sm35 : CtP HMs sm35 := ct_of (cts := [sm1, sm7, sm9, sm14, sm34]) (hds := [(21, [some (.inr (.inl [123])), some (.inl (0, 1, none)), some (.inl (0, 3, none)), some (.inl (0, 24, none))], 0, [(3, 1, 24)])]) (w := 25) (fuel := 51) (List.forall_mem_cons.mpr ⟨p_sm1, List.forall_mem_cons.mpr ⟨p_sm7, List.forall_mem_cons.mpr ⟨p_sm9, List.forall_mem_cons.mpr ⟨p_sm14, List.forall_mem_cons.mpr ⟨p_sm34, fun _ h => absurd h List.not_mem_nil⟩⟩⟩⟩⟩) (by decide +kernel)
