-- X12_mean 0 i i
def km91_c : fx_C := ([.inr (.inr 1), .inl (-2147483648, 2147483647), .inl (-2147483648, 2147483647)], [], [(some (.inl (-1000000, -1000000)), [.inr (.inr 1), .inl (-2147483648, 2147483647), .inl (-2147483648, 2147483647)], []), (some (.inl (-2147483648, 2147483647)), [.inr (.inr 1), .inl (0, 4), .inl (0, 1)], [((0, 41), .inr (.inr 43)), ((3, 12), .inl (1, 12))])], [(12, 45), (1000, 43)])
def km91_a : List fx_N := [(26, [(1, .inl (4, 4)), (0, .inr (.inr 1)), (2, .inl (0, 1)), (3, .inl (-2147483648, 2147483647)), (4, .inl (0, 4096))], [((1, 41), .inr (.inr 43)), ((5, 12), .inl (5, 12))], [(0, 0), (1, 4), (0, 0)], [(0, 1), (1, 0), (2, 2)]), (26, [(1, .inl (3, 3)), (0, .inr (.inr 1)), (2, .inl (0, 1)), (3, .inl (-2147483648, 2147483647)), (4, .inl (0, 4096))], [((1, 41), .inr (.inr 43)), ((5, 12), .inl (4, 12))], [(0, 1), (1, 4), (0, 0)], [(0, 1), (1, 0), (2, 2)]), (26, [(1, .inl (2, 2)), (0, .inr (.inr 1)), (2, .inl (0, 1)), (3, .inl (-2147483648, 2147483647)), (4, .inl (0, 4096))], [((1, 41), .inr (.inr 43)), ((5, 12), .inl (3, 12))], [(0, 2), (1, 4), (0, 0)], [(0, 1), (1, 0), (2, 2)]), (26, [(1, .inl (1, 1)), (0, .inr (.inr 1)), (2, .inl (0, 1)), (3, .inl (-2147483648, 2147483647)), (4, .inl (0, 4096))], [((1, 41), .inr (.inr 43)), ((5, 12), .inl (2, 12))], [(0, 3), (1, 4), (0, 0)], [(0, 1), (1, 0), (2, 2)]), (26, [(1, .inl (0, 0)), (0, .inr (.inr 1)), (2, .inl (0, 1)), (3, .inl (-2147483648, 2147483647)), (4, .inl (0, 4096))], [((1, 41), .inr (.inr 43)), ((5, 12), .inl (1, 12))], [(0, 4), (1, 4), (0, 0)], [(0, 1), (1, 0), (2, 2)])]
def km91_s : List fx_D := []
def km91_x : fx_X := ([], [(92, 12, 41), (95, 12, 42), (384, 12, 45)], [], [(402, -1000000)], [], [(2, 477, 12, km68_c), (11, 359, 1000, km28_c), (42, 480, 1000, km69_c), (55, 483, 12, km82_c), (68, 406, 12, km22_c), (87, 437, 1000, km85_c), (87, 437, 1000, km87_c), (87, 437, 1000, km88_c), (87, 437, 1000, km89_c), (87, 437, 1000, km90_c), (105, 440, 1000, km86_c)])
set_option maxRecDepth 100000 in
theorem km91_k : fx_chk TM 5 km91_c 0 km91_x t_X12_mean km91_a km91_s 29 = true := by decide +kernel
set_option maxRecDepth 100000 in
theorem km91 {l : Launch} {E : (Nat → Prop) → State → Prop} {ad : List Nat} {D : va_G} {cy : Nat → ClassId} (h : fx_env E D classes (tys cy) nestW) : fx_Met l yX12_mean (.code yX12_mean cX12_mean 5 (some .int) :: wsL_law) ({ frames := 2, cells := 0, slots := 0, locals := 46 }) E (gsM, TM, cy, fun _ => True) ad D classes km91_c :=
  fx_sound (x := km91_x) (tb := t_X12_mean) (an := km91_a) (sp := km91_s) (rk := 0) 29 h (fun _ _ _ _ _ _ => trivial) (fun _ _ _ _ _ _ => trivial) (ht_tys cy) (by decide) rfl ⟨fx_an, (fx_ac fl_X12_92 (fx_ac fl_X12_95 (fx_ac fl_X12_384 (fx_an)))), fx_an, (fx_ac kc_X12_402 (fx_an)), fx_an, (fx_ac (ev_V (km68 h) (by decide) rfl ⟨by decide, by decide⟩ iV_X12_canLeave g_X12_477) (fx_ac (ev_S (km28 h) ⟨by decide, by decide⟩ iS_X12_isIn g_X12_359) (fx_ac (ev_S (km69 h) ⟨by decide, by decide⟩ iS_X12_bitsOf g_X12_480) (fx_ac (ev_V (km82 h) (by decide) rfl ⟨by decide, by decide⟩ iV_X12_layWithout g_X12_483) (fx_ac (ev_V (km22 h) (by decide) rfl ⟨by decide, by decide⟩ iV_X12_senseOf g_X12_406) (fx_ac (ev_S (km85 h) ⟨by decide, by decide⟩ iS_X12_choices g_X12_437) (fx_ac (ev_S (km87 h) ⟨by decide, by decide⟩ iS_X12_choices g_X12_437) (fx_ac (ev_S (km88 h) ⟨by decide, by decide⟩ iS_X12_choices g_X12_437) (fx_ac (ev_S (km89 h) ⟨by decide, by decide⟩ iS_X12_choices g_X12_437) (fx_ac (ev_S (km90 h) ⟨by decide, by decide⟩ iS_X12_choices g_X12_437) (fx_ac (ev_S (km86 h) ⟨by decide, by decide⟩ iS_X12_divisor g_X12_440) (fx_an))))))))))))⟩ d_X12_mean km91_k
-- X12_isIn i i i (-2147483648, 2147483647) (1, 1) (4, 4)
def km92_c : fx_C := ([.inl (-2147483648, 2147483647), .inl (1, 1), .inl (4, 4)], [], [(some (.inl (1, 1)), [.inl (1, 4), .inl (1, 1), .inl (4, 4)], []), (some (.inl (0, 0)), [.inl (-2147483648, 2147483647), .inl (1, 1), .inl (4, 4)], [])], [])
def km92_a : List fx_N := []
def km92_s : List fx_D := []
def km92_x : fx_X := ([], [], [], [], [], [])
set_option maxRecDepth 100000 in
theorem km92_k : fx_chk TM 3 km92_c 3 km92_x t_X12_isIn km92_a km92_s 11 = true := by decide +kernel
set_option maxRecDepth 100000 in
theorem km92 {l : Launch} {E : (Nat → Prop) → State → Prop} {ad : List Nat} {D : va_G} {cy : Nat → ClassId} (h : fx_env E D classes (tys cy) nestW) : fx_Met l yX12_isIn (.code yX12_isIn cX12_isIn 3 (some .boolean) :: wsL_law) ({ frames := 0, cells := 0, slots := 0, locals := 0 }) E (gsM, TM, cy, fun _ => True) ad D classes km92_c :=
  fx_sound (x := km92_x) (tb := t_X12_isIn) (an := km92_a) (sp := km92_s) (rk := 3) 11 h (fun _ _ _ _ _ _ => trivial) (fun _ _ _ _ _ _ => trivial) (ht_tys cy) (by decide) rfl ⟨fx_an, fx_an, fx_an, fx_an, fx_an, fx_an⟩ d_X12_isIn km92_k
-- X12_has i i ('any',) ('any',)
def km93_c : fx_C := ([.inl (0, 4095), .inl (0, 11)], [], [(some (.inl (1, 1)), [.inl (0, 4095), .inl (0, 11)], []), (some (.inl (0, 0)), [.inl (0, 4095), .inl (0, 11)], [])], [])
def km93_a : List fx_N := []
def km93_s : List fx_D := []
def km93_x : fx_X := ([], [], [], [], [], [])
set_option maxRecDepth 100000 in
theorem km93_k : fx_chk TM 2 km93_c 3 km93_x t_X12_has km93_a km93_s 12 = true := by decide +kernel
set_option maxRecDepth 100000 in
theorem km93 {l : Launch} {E : (Nat → Prop) → State → Prop} {ad : List Nat} {D : va_G} {cy : Nat → ClassId} (h : fx_env E D classes (tys cy) nestW) : fx_Met l yX12_has (.code yX12_has cX12_has 2 (some .boolean) :: wsL_law) ({ frames := 0, cells := 0, slots := 0, locals := 0 }) E (gsM, TM, cy, fun _ => True) ad D classes km93_c :=
  fx_sound (x := km93_x) (tb := t_X12_has) (an := km93_a) (sp := km93_s) (rk := 3) 12 h (fun _ _ _ _ _ _ => trivial) (fun _ _ _ _ _ _ => trivial) (ht_tys cy) (by decide) rfl ⟨fx_an, fx_an, fx_an, fx_an, fx_an, fx_an⟩ d_X12_has km93_k
-- X12_duelOf 0 i
def km94_c : fx_C := ([.inr (.inr 1), .inl (1, 4)], [], [(some (.inl (-2147483648, 2147483647)), [.inr (.inr 1), .inl (1, 4)], [])], [(12, 45), (12, 59), (1000, 43), (1000, 59)])
def km94_a : List fx_N := [(12, [(0, .inr (.inr 1)), (1, .inl (1, 4)), (2, .inl (-1, 4095))], [], [(0, 0), (2, 2), (0, 1), (0, 0), (0, 0)], [(0, 0), (1, 1)]), (66, [(0, .inr (.inr 1)), (1, .inl (1, 4)), (2, .inl (0, 4095)), (3, .inl (0, 4)), (4, .inl (-1, 11)), (5, .inl (0, 12))], [], [(0, 0), (2, 2), (0, 0), (1, 5), (0, 0)], [(0, 0), (1, 1)])]
def km94_s : List fx_D := []
def km94_x : fx_X := ([], [(92, 12, 41), (95, 12, 42), (125, 12, 58), (384, 12, 45)], [(489, 12, 59, 0)], [], [], [(17, 480, 1000, km69_c), (36, 483, 12, km82_c), (53, 406, 12, km22_c), (81, 474, 1000, km93_c)])
set_option maxRecDepth 100000 in
theorem km94_k : fx_chk TM 7 km94_c 0 km94_x t_X12_duelOf km94_a km94_s 43 = true := by decide +kernel
set_option maxRecDepth 100000 in
theorem km94 {l : Launch} {E : (Nat → Prop) → State → Prop} {ad : List Nat} {D : va_G} {cy : Nat → ClassId} (h : fx_env E D classes (tys cy) nestW) : fx_Met l yX12_duelOf (.code yX12_duelOf cX12_duelOf 7 (some .int) :: wsL_law) ({ frames := 2, cells := 0, slots := 0, locals := 46 }) E (gsM, TM, cy, fun _ => True) ad D classes km94_c :=
  fx_sound (x := km94_x) (tb := t_X12_duelOf) (an := km94_a) (sp := km94_s) (rk := 0) 43 h (fun _ _ _ _ _ _ => trivial) (fun _ _ _ _ _ _ => trivial) (ht_tys cy) (by decide) rfl ⟨fx_an, (fx_ac fl_X12_92 (fx_ac fl_X12_95 (fx_ac fl_X12_125 (fx_ac fl_X12_384 (fx_an))))), (fx_ac pl_X12_489 (fx_an)), fx_an, fx_an, (fx_ac (ev_S (km69 h) ⟨by decide, by decide⟩ iS_X12_bitsOf g_X12_480) (fx_ac (ev_V (km82 h) (by decide) rfl ⟨by decide, by decide⟩ iV_X12_layWithout g_X12_483) (fx_ac (ev_V (km22 h) (by decide) rfl ⟨by decide, by decide⟩ iV_X12_senseOf g_X12_406) (fx_ac (ev_S (km93 h) ⟨by decide, by decide⟩ iS_X12_has g_X12_474) (fx_an)))))⟩ d_X12_duelOf km94_k
-- X12_duel 0 i i
def km95_c : fx_C := ([.inr (.inr 1), .inl (-2147483648, 2147483647), .inl (-2147483648, 2147483647)], [], [(some (.inl (-1000000, -1000000)), [.inr (.inr 1), .inl (-2147483648, 2147483647), .inl (-2147483648, 2147483647)], []), (some (.inl (-2147483648, 2147483647)), [.inr (.inr 1), .inl (1, 4), .inl (0, 1)], [((0, 41), .inr (.inr 43)), ((3, 12), .inl (1, 12))])], [(12, 45), (12, 59), (1000, 43), (1000, 59)])
def km95_a : List fx_N := []
def km95_s : List fx_D := []
def km95_x : fx_X := ([], [(92, 12, 41), (489, 12, 59)], [], [(402, -1000000)], [], [(3, 359, 1000, km92_c), (23, 359, 1000, km28_c), (35, 492, 12, km94_c)])
set_option maxRecDepth 100000 in
theorem km95_k : fx_chk TM 4 km95_c 0 km95_x t_X12_duel km95_a km95_s 27 = true := by decide +kernel
set_option maxRecDepth 100000 in
theorem km95 {l : Launch} {E : (Nat → Prop) → State → Prop} {ad : List Nat} {D : va_G} {cy : Nat → ClassId} (h : fx_env E D classes (tys cy) nestW) : fx_Met l yX12_duel (.code yX12_duel cX12_duel 4 (some .int) :: wsL_law) ({ frames := 3, cells := 0, slots := 0, locals := 72 }) E (gsM, TM, cy, fun _ => True) ad D classes km95_c :=
  fx_sound (x := km95_x) (tb := t_X12_duel) (an := km95_a) (sp := km95_s) (rk := 0) 27 h (fun _ _ _ _ _ _ => trivial) (fun _ _ _ _ _ _ => trivial) (ht_tys cy) (by decide) rfl ⟨fx_an, (fx_ac fl_X12_92 (fx_ac fl_X12_489 (fx_an))), fx_an, (fx_ac kc_X12_402 (fx_an)), fx_an, (fx_ac (ev_S (km92 h) ⟨by decide, by decide⟩ iS_X12_isIn g_X12_359) (fx_ac (ev_S (km28 h) ⟨by decide, by decide⟩ iS_X12_isIn g_X12_359) (fx_ac (ev_V (km94 h) (by decide) rfl ⟨by decide, by decide⟩ iV_X12_duelOf g_X12_492) (fx_an))))⟩ d_X12_duel km95_k
-- X12_apart 0 i i
def km96_c : fx_C := ([.inr (.inr 1), .inl (-2147483648, 2147483647), .inl (-2147483648, 2147483647)], [], [(some (.inl (-1, -1)), [.inr (.inr 1), .inl (-2147483648, 2147483647), .inl (-2147483648, 2147483647)], []), (some (.inl (-2147483648, 2147483647)), [.inr (.inr 1), .inl (-1, 4), .inl (-1, 4)], [])], [(12, 45), (12, 46), (1000, 43), (1000, 44), (1000, 58)])
def km96_a : List fx_N := [(33, [(0, .inr (.inr 1)), (1, .inl (-1, 4)), (2, .inl (-1, 4)), (3, .inl (-1, 12))], [], [(0, 0), (2, 3), (0, 1), (0, 0), (0, 0)], [(0, 0), (1, 1), (2, 2)]), (43, [(0, .inr (.inr 1)), (1, .inl (-1, 4)), (2, .inl (-1, 4)), (3, .inl (0, 12)), (4, .inl (-1, 12))], [], [(0, 0), (2, 3), (0, 0), (2, 4), (0, 0)], [(0, 0), (1, 1), (2, 2)])]
def km96_s : List fx_D := []
def km96_x : fx_X := ([], [(95, 12, 42), (98, 12, 43), (122, 12, 57), (384, 12, 45), (390, 12, 46)], [], [], [], [(2, 396, 12, km12_c), (10, 396, 12, km12_c), (20, 403, 12, km21_c), (20, 403, 12, km23_c), (25, 431, 12, km53_c), (25, 431, 12, km55_c)])
set_option maxRecDepth 100000 in
theorem km96_k : fx_chk TM 9 km96_c 0 km96_x t_X12_apart km96_a km96_s 97 = true := by decide +kernel
set_option maxRecDepth 100000 in
theorem km96 {l : Launch} {E : (Nat → Prop) → State → Prop} {ad : List Nat} {D : va_G} {cy : Nat → ClassId} (h : fx_env E D classes (tys cy) nestW) : fx_Met l yX12_apart (.code yX12_apart cX12_apart 9 (some .int) :: wsL_law) ({ frames := 3, cells := 0, slots := 0, locals := 64 }) E (gsM, TM, cy, fun _ => True) ad D classes km96_c :=
  fx_sound (x := km96_x) (tb := t_X12_apart) (an := km96_a) (sp := km96_s) (rk := 0) 97 h (fun _ _ _ _ _ _ => trivial) (fun _ _ _ _ _ _ => trivial) (ht_tys cy) (by decide) rfl ⟨fx_an, (fx_ac fl_X12_95 (fx_ac fl_X12_98 (fx_ac fl_X12_122 (fx_ac fl_X12_384 (fx_ac fl_X12_390 (fx_an)))))), fx_an, fx_an, fx_an, (fx_ac (ev_V (km12 h) (by decide) rfl ⟨by decide, by decide⟩ iV_X12_isSlipOrRow g_X12_396) (fx_ac (ev_V (km12 h) (by decide) rfl ⟨by decide, by decide⟩ iV_X12_isSlipOrRow g_X12_396) (fx_ac (ev_V (km21 h) (by decide) rfl ⟨by decide, by decide⟩ iV_X12_layOne g_X12_403) (fx_ac (ev_V (km23 h) (by decide) rfl ⟨by decide, by decide⟩ iV_X12_layOne g_X12_403) (fx_ac (ev_V (km53 h) (by decide) rfl ⟨by decide, by decide⟩ iV_X12_layTwo g_X12_431) (fx_ac (ev_V (km55 h) (by decide) rfl ⟨by decide, by decide⟩ iV_X12_layTwo g_X12_431) (fx_an)))))))⟩ d_X12_apart km96_k
-- X12_layShared 0
def km97_c : fx_C := ([.inr (.inr 1)], [], [(none, [.inr (.inr 1)], [])], [(1000, 57)])
def km97_a : List fx_N := [(5, [(0, .inr (.inr 1)), (1, .inl (-1, 12))], [], [(0, 0), (2, 1), (0, 1), (0, 0), (0, 0)], [(0, 0)]), (14, [(0, .inr (.inr 1)), (1, .inl (0, 12)), (2, .inl (-1, 12))], [], [(0, 0), (2, 1), (0, 0), (2, 2), (0, 0)], [(0, 0)])]
def km97_s : List fx_D := []
def km97_x : fx_X := ([], [(95, 12, 42), (98, 12, 43), (119, 12, 56), (384, 12, 45), (390, 12, 46)], [], [], [], [])
set_option maxRecDepth 100000 in
theorem km97_k : fx_chk TM 6 km97_c 9 km97_x t_X12_layShared km97_a km97_s 73 = true := by decide +kernel
set_option maxRecDepth 100000 in
theorem km97 {l : Launch} {E : (Nat → Prop) → State → Prop} {ad : List Nat} {D : va_G} {cy : Nat → ClassId} (h : fx_env E D classes (tys cy) nestW) : fx_Met l yX12_layShared (.code yX12_layShared cX12_layShared 6 none :: wsL_law) ({ frames := 0, cells := 0, slots := 0, locals := 0 }) E (gsM, TM, cy, fun _ => True) ad D classes km97_c :=
  fx_sound (x := km97_x) (tb := t_X12_layShared) (an := km97_a) (sp := km97_s) (rk := 9) 73 h (fun _ _ _ _ _ _ => trivial) (fun _ _ _ _ _ _ => trivial) (ht_tys cy) (by decide) rfl ⟨fx_an, (fx_ac fl_X12_95 (fx_ac fl_X12_98 (fx_ac fl_X12_119 (fx_ac fl_X12_384 (fx_ac fl_X12_390 (fx_an)))))), fx_an, fx_an, fx_an, fx_an⟩ d_X12_layShared km97_k
-- X12_strange 0 i
def km98_c : fx_C := ([.inr (.inr 1), .inl (-2147483648, 2147483647)], [], [(some (.inl (-2147483648, 2147483647)), [.inr (.inr 1), .inl (0, 4)], [((0, 45), .inl (0, 8))]), (some (.inl (-1, -1)), [.inr (.inr 1), .inl (-2147483648, 2147483647)], [])], [(12, 45), (12, 46), (1000, 43), (1000, 44), (1000, 57)])
def km98_a : List fx_N := []
def km98_s : List fx_D := []
def km98_x : fx_X := ([], [(119, 12, 56), (384, 12, 45)], [], [], [], [(2, 363, 12, km7_c), (12, 403, 12, km23_c), (17, 431, 12, km53_c), (21, 467, 12, km97_c)])
set_option maxRecDepth 100000 in
theorem km98_k : fx_chk TM 2 km98_c 0 km98_x t_X12_strange km98_a km98_s 22 = true := by decide +kernel
set_option maxRecDepth 100000 in
theorem km98 {l : Launch} {E : (Nat → Prop) → State → Prop} {ad : List Nat} {D : va_G} {cy : Nat → ClassId} (h : fx_env E D classes (tys cy) nestW) : fx_Met l yX12_strange (.code yX12_strange cX12_strange 2 (some .int) :: wsL_law) ({ frames := 2, cells := 0, slots := 0, locals := 44 }) E (gsM, TM, cy, fun _ => True) ad D classes km98_c :=
  fx_sound (x := km98_x) (tb := t_X12_strange) (an := km98_a) (sp := km98_s) (rk := 0) 22 h (fun _ _ _ _ _ _ => trivial) (fun _ _ _ _ _ _ => trivial) (ht_tys cy) (by decide) rfl ⟨fx_an, (fx_ac fl_X12_119 (fx_ac fl_X12_384 (fx_an))), fx_an, fx_an, fx_an, (fx_ac (ev_V (km7 h) (by decide) rfl ⟨by decide, by decide⟩ iV_X12_isSlip g_X12_363) (fx_ac (ev_V (km23 h) (by decide) rfl ⟨by decide, by decide⟩ iV_X12_layOne g_X12_403) (fx_ac (ev_V (km53 h) (by decide) rfl ⟨by decide, by decide⟩ iV_X12_layTwo g_X12_431) (fx_ac (ev_V (km97 h) (by decide) rfl ⟨by decide, by decide⟩ iV_X12_layShared g_X12_467) (fx_an)))))⟩ d_X12_strange km98_k
-- X12_keepNow 0
def km99_c : fx_C := ([.inr (.inr 1)], [], [(none, [.inr (.inr 1)], [])], [(1000, 61)])
def km99_a : List fx_N := [(2, [(1, .inl (0, 0)), (0, .inr (.inr 1))], [], [(0, 15)], [(0, 1)]), (2, [(1, .inl (1, 1)), (0, .inr (.inr 1))], [], [(0, 14)], [(0, 1)]), (2, [(1, .inl (2, 2)), (0, .inr (.inr 1))], [], [(0, 13)], [(0, 1)]), (2, [(1, .inl (3, 3)), (0, .inr (.inr 1))], [], [(0, 12)], [(0, 1)]), (2, [(1, .inl (4, 4)), (0, .inr (.inr 1))], [], [(0, 11)], [(0, 1)]), (2, [(1, .inl (5, 5)), (0, .inr (.inr 1))], [], [(0, 10)], [(0, 1)]), (2, [(1, .inl (6, 6)), (0, .inr (.inr 1))], [], [(0, 9)], [(0, 1)]), (2, [(1, .inl (7, 7)), (0, .inr (.inr 1))], [], [(0, 8)], [(0, 1)]), (2, [(1, .inl (8, 8)), (0, .inr (.inr 1))], [], [(0, 7)], [(0, 1)]), (2, [(1, .inl (9, 9)), (0, .inr (.inr 1))], [], [(0, 6)], [(0, 1)]), (2, [(1, .inl (10, 10)), (0, .inr (.inr 1))], [], [(0, 5)], [(0, 1)]), (2, [(1, .inl (11, 11)), (0, .inr (.inr 1))], [], [(0, 4)], [(0, 1)]), (2, [(1, .inl (12, 12)), (0, .inr (.inr 1))], [], [(0, 3)], [(0, 1)]), (2, [(1, .inl (13, 13)), (0, .inr (.inr 1))], [], [(0, 2)], [(0, 1)]), (2, [(1, .inl (14, 14)), (0, .inr (.inr 1))], [], [(0, 1)], [(0, 1)]), (2, [(1, .inl (15, 15)), (0, .inr (.inr 1))], [], [(0, 0)], [(0, 1)])]
def km99_s : List fx_D := []
def km99_x : fx_X := ([], [(92, 12, 41), (128, 12, 60)], [], [], [], [])
set_option maxRecDepth 100000 in
theorem km99_k : fx_chk TM 2 km99_c 9 km99_x t_X12_keepNow km99_a km99_s 16 = true := by decide +kernel
set_option maxRecDepth 100000 in
theorem km99 {l : Launch} {E : (Nat → Prop) → State → Prop} {ad : List Nat} {D : va_G} {cy : Nat → ClassId} (h : fx_env E D classes (tys cy) nestW) : fx_Met l yX12_keepNow (.code yX12_keepNow cX12_keepNow 2 none :: wsL_law) ({ frames := 0, cells := 0, slots := 0, locals := 0 }) E (gsM, TM, cy, fun _ => True) ad D classes km99_c :=
  fx_sound (x := km99_x) (tb := t_X12_keepNow) (an := km99_a) (sp := km99_s) (rk := 9) 16 h (fun _ _ _ _ _ _ => trivial) (fun _ _ _ _ _ _ => trivial) (ht_tys cy) (by decide) rfl ⟨fx_an, (fx_ac fl_X12_92 (fx_ac fl_X12_128 (fx_an))), fx_an, fx_an, fx_an, fx_an⟩ d_X12_keepNow km99_k
-- X12_isAsSlip 0 i
def km100_c : fx_C := ([.inr (.inr 1), .inl (0, 4)], [], [(some (.inl (0, 0)), [.inr (.inr 1), .inl (0, 4)], []), (some (.inl (1, 1)), [.inr (.inr 1), .inl (0, 4)], [((0, 41), .inr (.inr 43)), ((2, 12), .inl (0, 8))])], [])
def km100_a : List fx_N := [(19, [(0, .inr (.inr 1)), (1, .inl (0, 4)), (2, .inl (0, 8))], [((0, 41), .inr (.inr 43)), ((3, 12), .inl (0, 8))], [(0, 0), (1, 2), (0, 0)], [(0, 0), (1, 1)])]
def km100_s : List fx_D := []
def km100_x : fx_X := ([], [(92, 12, 41)], [], [], [], [(2, 381, 12, km8_c), (33, 387, 12, km10_c)])
set_option maxRecDepth 100000 in
theorem km100_k : fx_chk TM 3 km100_c 3 km100_x t_X12_isAsSlip km100_a km100_s 22 = true := by decide +kernel
set_option maxRecDepth 100000 in
theorem km100 {l : Launch} {E : (Nat → Prop) → State → Prop} {ad : List Nat} {D : va_G} {cy : Nat → ClassId} (h : fx_env E D classes (tys cy) nestW) : fx_Met l yX12_isAsSlip (.code yX12_isAsSlip cX12_isAsSlip 3 (some .boolean) :: wsL_law) ({ frames := 1, cells := 0, slots := 0, locals := 22 }) E (gsM, TM, cy, fun _ => True) ad D classes km100_c :=
  fx_sound (x := km100_x) (tb := t_X12_isAsSlip) (an := km100_a) (sp := km100_s) (rk := 3) 22 h (fun _ _ _ _ _ _ => trivial) (fun _ _ _ _ _ _ => trivial) (ht_tys cy) (by decide) rfl ⟨fx_an, (fx_ac fl_X12_92 (fx_an)), fx_an, fx_an, fx_an, (fx_ac (ev_V (km8 h) (by decide) rfl ⟨by decide, by decide⟩ iV_X12_longOf g_X12_381) (fx_ac (ev_V (km10 h) (by decide) rfl ⟨by decide, by decide⟩ iV_X12_wordOf g_X12_387) (fx_an)))⟩ d_X12_isAsSlip km100_k
