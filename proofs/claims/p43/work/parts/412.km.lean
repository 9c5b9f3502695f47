-- X12_layTwo 0 i +
def km55_c : fx_C := ([.inr (.inr 1), .inl (0, 4)], [], [(none, [.inr (.inr 1), .inl (0, 4)], [((0, 46), .inl (0, 8))])], [(12, 46), (1000, 44)])
def km55_a : List fx_N := [(11, [(0, .inr (.inr 1)), (1, .inl (0, 4)), (2, .inl (0, 8))], [((0, 46), .inl (0, 8))], [(0, 0), (1, 2), (0, 0)], [(0, 0), (1, 1)])]
def km55_s : List fx_D := []
def km55_x : fx_X := ([], [(98, 12, 43), (390, 12, 46)], [(390, 12, 46, 0)], [], [], [(3, 381, 12, km8_c), (27, 387, 12, km10_c)])
set_option maxRecDepth 100000 in
theorem km55_k : fx_chk TM 3 km55_c 9 km55_x t_X12_layTwo km55_a km55_s 17 = true := by decide +kernel
set_option maxRecDepth 100000 in
theorem km55 {l : Launch} {E : (Nat → Prop) → State → Prop} {ad : List Nat} {D : va_G} {cy : Nat → ClassId} (h : fx_env E D classes (tys cy) nestW) : fx_Met l yX12_layTwo (.code yX12_layTwo cX12_layTwo 3 none :: wsL_law) ({ frames := 1, cells := 0, slots := 0, locals := 22 }) E (gsM, TM, cy, fun _ => True) ad D classes km55_c :=
  fx_sound (x := km55_x) (tb := t_X12_layTwo) (an := km55_a) (sp := km55_s) (rk := 9) 17 h (fun _ _ _ _ _ _ => trivial) (fun _ _ _ _ _ _ => trivial) (ht_tys cy) (by decide) rfl ⟨fx_an, (fx_ac fl_X12_98 (fx_ac fl_X12_390 (fx_an))), (fx_ac pl_X12_390 (fx_an)), fx_an, fx_an, (fx_ac (ev_V (km8 h) (by decide) rfl ⟨by decide, by decide⟩ iV_X12_longOf g_X12_381) (fx_ac (ev_V (km10 h) (by decide) rfl ⟨by decide, by decide⟩ iV_X12_wordOf g_X12_387) (fx_an)))⟩ d_X12_layTwo km55_k
-- X12_ways 0 i i
def km56_c : fx_C := ([.inr (.inr 1), .inl (-2147483648, 2147483647), .inl (-2147483648, 2147483647)], [], [(some (.inl (-2147483648, 2147483647)), [.inr (.inr 1), .inl (-1, 4), .inl (-1, 4)], []), (some (.inl (-1, -1)), [.inr (.inr 1), .inl (-2147483648, 2147483647), .inl (-2147483648, 2147483647)], [])], [(12, 45), (12, 46), (1000, 43), (1000, 44), (1000, 52)])
def km56_a : List fx_N := []
def km56_s : List fx_D := []
def km56_x : fx_X := ([], [], [], [], [], [(2, 396, 12, km12_c), (10, 396, 12, km12_c), (20, 403, 12, km21_c), (20, 403, 12, km23_c), (25, 431, 12, km53_c), (25, 431, 12, km55_c), (29, 434, 12, km54_c)])
set_option maxRecDepth 100000 in
theorem km56_k : fx_chk TM 3 km56_c 0 km56_x t_X12_ways km56_a km56_s 19 = true := by decide +kernel
set_option maxRecDepth 100000 in
theorem km56 {l : Launch} {E : (Nat → Prop) → State → Prop} {ad : List Nat} {D : va_G} {cy : Nat → ClassId} (h : fx_env E D classes (tys cy) nestW) : fx_Met l yX12_ways (.code yX12_ways cX12_ways 3 (some .int) :: wsL_law) ({ frames := 3, cells := 0, slots := 0, locals := 64 }) E (gsM, TM, cy, fun _ => True) ad D classes km56_c :=
  fx_sound (x := km56_x) (tb := t_X12_ways) (an := km56_a) (sp := km56_s) (rk := 0) 19 h (fun _ _ _ _ _ _ => trivial) (fun _ _ _ _ _ _ => trivial) (ht_tys cy) (by decide) rfl ⟨fx_an, fx_an, fx_an, fx_an, fx_an, (fx_ac (ev_V (km12 h) (by decide) rfl ⟨by decide, by decide⟩ iV_X12_isSlipOrRow g_X12_396) (fx_ac (ev_V (km12 h) (by decide) rfl ⟨by decide, by decide⟩ iV_X12_isSlipOrRow g_X12_396) (fx_ac (ev_V (km21 h) (by decide) rfl ⟨by decide, by decide⟩ iV_X12_layOne g_X12_403) (fx_ac (ev_V (km23 h) (by decide) rfl ⟨by decide, by decide⟩ iV_X12_layOne g_X12_403) (fx_ac (ev_V (km53 h) (by decide) rfl ⟨by decide, by decide⟩ iV_X12_layTwo g_X12_431) (fx_ac (ev_V (km55 h) (by decide) rfl ⟨by decide, by decide⟩ iV_X12_layTwo g_X12_431) (fx_ac (ev_V (km54 h) (by decide) rfl ⟨by decide, by decide⟩ iV_X12_countWays g_X12_434) (fx_an))))))))⟩ d_X12_ways km56_k
-- X12_odds 0 i i
def km57_c : fx_C := ([.inr (.inr 1), .inl (-2147483648, 2147483647), .inl (-2147483648, 2147483647)], [], [(some (.inl (-2147483648, 2147483647)), [.inr (.inr 1), .inl (-2147483648, 2147483647), .inl (-2147483648, 2147483647)], [])], [(12, 45), (12, 46), (1000, 43), (1000, 44), (1000, 52)])
theorem km57 {l : Launch} {E : (Nat → Prop) → State → Prop} {ad : List Nat} {D : va_G} {cy : Nat → ClassId} (h : fx_env E D classes (tys cy) nestW) : fx_Met l yX12_odds (.code yX12_odds cX12_odds 5 (some .int) :: wsL_law) ({ frames := 0, cells := 0, slots := 0, locals := 0 }) E (gsM, TM, cy, fun _ => True) ad D classes km57_c := by
  sorry
-- X12_layBoth 0 i i
def km58_c : fx_C := ([.inr (.inr 1), .inl (-2147483648, 2147483647), .inl (-2147483648, 2147483647)], [], [(some (.inl (1, 1)), [.inr (.inr 1), .inl (0, 4), .inl (0, 4)], [((0, 45), .inl (0, 8)), ((0, 46), .inl (0, 8)), ((0, 47), .inl (0, 0))]), (some (.inl (0, 0)), [.inr (.inr 1), .inl (-2147483648, 2147483647), .inl (-2147483648, 2147483647)], [])], [(12, 45), (12, 46), (12, 47), (1000, 43), (1000, 44)])
def km58_a : List fx_N := []
def km58_s : List fx_D := []
def km58_x : fx_X := ([], [], [(443, 12, 47, 0)], [], [], [(2, 363, 12, km7_c), (10, 363, 12, km7_c), (20, 403, 12, km23_c), (25, 431, 12, km55_c)])
set_option maxRecDepth 100000 in
theorem km58_k : fx_chk TM 3 km58_c 3 km58_x t_X12_layBoth km58_a km58_s 21 = true := by decide +kernel
set_option maxRecDepth 100000 in
theorem km58 {l : Launch} {E : (Nat → Prop) → State → Prop} {ad : List Nat} {D : va_G} {cy : Nat → ClassId} (h : fx_env E D classes (tys cy) nestW) : fx_Met l yX12_layBoth (.code yX12_layBoth cX12_layBoth 3 (some .boolean) :: wsL_law) ({ frames := 2, cells := 0, slots := 0, locals := 44 }) E (gsM, TM, cy, fun _ => True) ad D classes km58_c :=
  fx_sound (x := km58_x) (tb := t_X12_layBoth) (an := km58_a) (sp := km58_s) (rk := 3) 21 h (fun _ _ _ _ _ _ => trivial) (fun _ _ _ _ _ _ => trivial) (ht_tys cy) (by decide) rfl ⟨fx_an, fx_an, (fx_ac pl_X12_443 (fx_an)), fx_an, fx_an, (fx_ac (ev_V (km7 h) (by decide) rfl ⟨by decide, by decide⟩ iV_X12_isSlip g_X12_363) (fx_ac (ev_V (km7 h) (by decide) rfl ⟨by decide, by decide⟩ iV_X12_isSlip g_X12_363) (fx_ac (ev_V (km23 h) (by decide) rfl ⟨by decide, by decide⟩ iV_X12_layOne g_X12_403) (fx_ac (ev_V (km55 h) (by decide) rfl ⟨by decide, by decide⟩ iV_X12_layTwo g_X12_431) (fx_an)))))⟩ d_X12_layBoth km58_k
-- X12_showSource 0
def km59_c : fx_C := ([.inr (.inr 1)], [], [(some (.inl (0, 36)), [.inr (.inr 1)], [])], [(12, 55), (1000, 53), (1000, 54), (1000, 55)])
theorem km59 {l : Launch} {E : (Nat → Prop) → State → Prop} {ad : List Nat} {D : va_G} {cy : Nat → ClassId} (h : fx_env E D classes (tys cy) nestW) : fx_Met l yX12_showSource (.code yX12_showSource cX12_showSource 5 (some .int) :: wsL_law) ({ frames := 0, cells := 0, slots := 0, locals := 0 }) E (gsM, TM, cy, IM) ad D classes km59_c := by
  sorry
theorem km58_i {l : Launch} {E : (Nat → Prop) → State → Prop} {ad : List Nat} {D : va_G} {cy : Nat → ClassId} (h : fx_env E D classes (tys cy) nestW) : fx_Met l yX12_layBoth (.code yX12_layBoth cX12_layBoth 3 (some .boolean) :: wsL_law) ({ frames := 2, cells := 0, slots := 0, locals := 44 }) E (gsM, TM, cy, IM) ad D classes km58_c := fx_lift (km58 h) (im_lift (by decide +kernel))
-- X12_source 0 i i
def km60_c : fx_C := ([.inr (.inr 1), .inl (-2147483648, 2147483647), .inl (-2147483648, 2147483647)], [], [(some (.inl (-1, -1)), [.inr (.inr 1), .inl (-2147483648, 2147483647), .inl (-2147483648, 2147483647)], [((0, 55), .inl (0, 0))]), (some (.inl (0, 36)), [.inr (.inr 1), .inl (0, 4), .inl (0, 4)], [((0, 45), .inl (0, 8)), ((0, 46), .inl (0, 8)), ((0, 47), .inl (0, 0))])], [(12, 45), (12, 46), (12, 47), (12, 55), (1000, 43), (1000, 44), (1000, 53), (1000, 54), (1000, 55)])
def km60_a : List fx_N := []
def km60_s : List fx_D := []
def km60_x : fx_X := ([], [], [(375, 12, 55, 0)], [], [], [(8, 460, 12, km58_c), (15, 464, 12, km59_c)])
set_option maxRecDepth 100000 in
theorem km60_k : fx_chk TM 3 km60_c 0 km60_x t_X12_source km60_a km60_s 14 = true := by decide +kernel
set_option maxRecDepth 100000 in
theorem km60 {l : Launch} {E : (Nat → Prop) → State → Prop} {ad : List Nat} {D : va_G} {cy : Nat → ClassId} (h : fx_env E D classes (tys cy) nestW) : fx_Met l yX12_source (.code yX12_source cX12_source 3 (some .int) :: wsL_law) ({ frames := 3, cells := 0, slots := 0, locals := 66 }) E (gsM, TM, cy, IM) ad D classes km60_c :=
  fx_sound (x := km60_x) (tb := t_X12_source) (an := km60_a) (sp := km60_s) (rk := 0) 14 h (im_frA (by decide +kernel)) (im_frF (by decide +kernel)) (ht_tys cy) (by decide) rfl ⟨fx_an, fx_an, (fx_ac pl_X12_375 (fx_an)), fx_an, fx_an, (fx_ac (ev_V (km58_i h) (by decide) rfl ⟨by decide, by decide⟩ iV_X12_layBoth g_X12_460) (fx_ac (ev_V (km59 h) (by decide) rfl ⟨by decide, by decide⟩ iV_X12_showSource g_X12_464) (fx_an)))⟩ d_X12_source km60_k
-- X12_place i i i
def km61_c : fx_C := ([.inl (0, 12), .inl (0, 12), .inl (0, 12)], [], [(some (.inl (0, 2196)), [.inl (0, 12), .inl (0, 12), .inl (0, 12)], [])], [])
def km61_a : List fx_N := []
def km61_s : List fx_D := []
def km61_x : fx_X := ([], [], [], [], [], [])
set_option maxRecDepth 100000 in
theorem km61_k : fx_chk TM 3 km61_c 0 km61_x t_X12_place km61_a km61_s 12 = true := by decide +kernel
set_option maxRecDepth 100000 in
theorem km61 {l : Launch} {E : (Nat → Prop) → State → Prop} {ad : List Nat} {D : va_G} {cy : Nat → ClassId} (h : fx_env E D classes (tys cy) nestW) : fx_Met l yX12_place (.code yX12_place cX12_place 3 (some .int) :: wsL_law) ({ frames := 0, cells := 0, slots := 0, locals := 0 }) E (gsM, TM, cy, fun _ => True) ad D classes km61_c :=
  fx_sound (x := km61_x) (tb := t_X12_place) (an := km61_a) (sp := km61_s) (rk := 0) 12 h (fun _ _ _ _ _ _ => trivial) (fun _ _ _ _ _ _ => trivial) (ht_tys cy) (by decide) rfl ⟨fx_an, fx_an, fx_an, fx_an, fx_an, fx_an⟩ d_X12_place km61_k
-- X12_stepBy 0 i i i i
def km62_c : fx_C := ([.inr (.inr 1), .inl (0, 8), .inl (0, 12), .inl (0, 12), .inl (0, 12)], [], [(some (.inl (0, 2196)), [.inr (.inr 1), .inl (0, 8), .inl (0, 12), .inl (0, 12), .inl (0, 12)], [])], [])
def km62_a : List fx_N := []
def km62_s : List fx_D := []
def km62_x : fx_X := ([], [(95, 12, 42), (98, 12, 43), (101, 12, 44), (384, 12, 45), (390, 12, 46), (443, 12, 47)], [], [], [], [(91, 446, 1000, km61_c)])
set_option maxRecDepth 100000 in
theorem km62_k : fx_chk TM 8 km62_c 0 km62_x t_X12_stepBy km62_a km62_s 52 = true := by decide +kernel
set_option maxRecDepth 100000 in
theorem km62 {l : Launch} {E : (Nat → Prop) → State → Prop} {ad : List Nat} {D : va_G} {cy : Nat → ClassId} (h : fx_env E D classes (tys cy) nestW) : fx_Met l yX12_stepBy (.code yX12_stepBy cX12_stepBy 8 (some .int) :: wsL_law) ({ frames := 1, cells := 0, slots := 0, locals := 22 }) E (gsM, TM, cy, fun _ => True) ad D classes km62_c :=
  fx_sound (x := km62_x) (tb := t_X12_stepBy) (an := km62_a) (sp := km62_s) (rk := 0) 52 h (fun _ _ _ _ _ _ => trivial) (fun _ _ _ _ _ _ => trivial) (ht_tys cy) (by decide) rfl ⟨fx_an, (fx_ac fl_X12_95 (fx_ac fl_X12_98 (fx_ac fl_X12_101 (fx_ac fl_X12_384 (fx_ac fl_X12_390 (fx_ac fl_X12_443 (fx_an))))))), fx_an, fx_an, fx_an, (fx_ac (ev_S (km61 h) ⟨by decide, by decide⟩ iS_X12_place g_X12_446) (fx_an))⟩ d_X12_stepBy km62_k
-- X12_layNeed 0 i i i
def km63_c : fx_C := ([.inr (.inr 1), .inl (0, 12), .inl (0, 12), .inl (0, 12)], [], [(none, [.inr (.inr 1), .inl (0, 12), .inl (0, 12), .inl (0, 12)], [])], [(1000, 53), (1000, 54)])
def km63_a : List fx_N := [(78, [(0, .inr (.inr 1)), (1, .inl (0, 12)), (2, .inl (0, 12)), (3, .inl (0, 12)), (4, .inl (0, 2196)), (5, .inl (0, 1)), (6, .inl (0, 9))], [], [(0, 0), (1, 6), (0, 0)], [(0, 0), (1, 1), (2, 2), (3, 3)])]
def km63_s : List fx_D := []
def km63_x : fx_X := ([], [(20, 12, 11), (110, 12, 52), (113, 12, 53), (274, 12, 34), (384, 12, 45), (390, 12, 46), (443, 12, 47)], [], [], [], [(3, 446, 1000, km61_c), (103, 449, 12, km62_c)])
set_option maxRecDepth 100000 in
theorem km63_k : fx_chk TM 9 km63_c 9 km63_x t_X12_layNeed km63_a km63_s 70 = true := by decide +kernel
set_option maxRecDepth 100000 in
theorem km63 {l : Launch} {E : (Nat → Prop) → State → Prop} {ad : List Nat} {D : va_G} {cy : Nat → ClassId} (h : fx_env E D classes (tys cy) nestW) : fx_Met l yX12_layNeed (.code yX12_layNeed cX12_layNeed 9 none :: wsL_law) ({ frames := 2, cells := 0, slots := 0, locals := 49 }) E (gsM, TM, cy, fun _ => True) ad D classes km63_c :=
  fx_sound (x := km63_x) (tb := t_X12_layNeed) (an := km63_a) (sp := km63_s) (rk := 9) 70 h (fun _ _ _ _ _ _ => trivial) (fun _ _ _ _ _ _ => trivial) (ht_tys cy) (by decide) rfl ⟨fx_an, (fx_ac fl_X12_20 (fx_ac fl_X12_110 (fx_ac fl_X12_113 (fx_ac fl_X12_274 (fx_ac fl_X12_384 (fx_ac fl_X12_390 (fx_ac fl_X12_443 (fx_an)))))))), fx_an, fx_an, fx_an, (fx_ac (ev_S (km61 h) ⟨by decide, by decide⟩ iS_X12_place g_X12_446) (fx_ac (ev_V (km62 h) (by decide) rfl ⟨by decide, by decide⟩ iV_X12_stepBy g_X12_449) (fx_an)))⟩ d_X12_layNeed km63_k
-- X12_layNeeds 0
def km64_c : fx_C := ([.inr (.inr 1)], [], [(none, [.inr (.inr 1)], [])], [(1000, 53), (1000, 54)])
def km64_a : List fx_N := [(5, [(0, .inr (.inr 1)), (1, .inl (-1, 12))], [], [(0, 0), (2, 1), (0, 1), (0, 0), (0, 0), (0, 0), (0, 0)], [(0, 0)]), (14, [(0, .inr (.inr 1)), (1, .inl (0, 12)), (2, .inl (-1, 12))], [], [(0, 0), (2, 1), (0, 0), (2, 2), (0, 1), (0, 0), (0, 0)], [(0, 0)]), (23, [(0, .inr (.inr 1)), (1, .inl (0, 12)), (2, .inl (0, 12)), (3, .inl (-1, 12))], [], [(0, 0), (2, 1), (0, 0), (2, 2), (0, 0), (2, 3), (0, 0)], [(0, 0)])]
def km64_s : List fx_D := []
def km64_x : fx_X := ([], [(384, 12, 45), (390, 12, 46), (443, 12, 47)], [], [], [], [(31, 453, 12, km63_c)])
set_option maxRecDepth 100000 in
theorem km64_k : fx_chk TM 4 km64_c 9 km64_x t_X12_layNeeds km64_a km64_s 12 = true := by decide +kernel
set_option maxRecDepth 100000 in
theorem km64 {l : Launch} {E : (Nat → Prop) → State → Prop} {ad : List Nat} {D : va_G} {cy : Nat → ClassId} (h : fx_env E D classes (tys cy) nestW) : fx_Met l yX12_layNeeds (.code yX12_layNeeds cX12_layNeeds 4 none :: wsL_law) ({ frames := 3, cells := 0, slots := 0, locals := 77 }) E (gsM, TM, cy, fun _ => True) ad D classes km64_c :=
  fx_sound (x := km64_x) (tb := t_X12_layNeeds) (an := km64_a) (sp := km64_s) (rk := 9) 12 h (fun _ _ _ _ _ _ => trivial) (fun _ _ _ _ _ _ => trivial) (ht_tys cy) (by decide) rfl ⟨fx_an, (fx_ac fl_X12_384 (fx_ac fl_X12_390 (fx_ac fl_X12_443 (fx_an)))), fx_an, fx_an, fx_an, (fx_ac (ev_V (km63 h) (by decide) rfl ⟨by decide, by decide⟩ iV_X12_layNeed g_X12_453) (fx_an))⟩ d_X12_layNeeds km64_k
-- X12_sources 0 i i
def km65_c : fx_C := ([.inr (.inr 1), .inl (-2147483648, 2147483647), .inl (-2147483648, 2147483647)], [], [(some (.inl (-1, -1)), [.inr (.inr 1), .inl (-2147483648, 2147483647), .inl (-2147483648, 2147483647)], []), (some (.inl (-2147483648, 2147483647)), [.inr (.inr 1), .inl (0, 4), .inl (0, 4)], [((0, 45), .inl (0, 8)), ((0, 46), .inl (0, 8)), ((0, 47), .inl (0, 0))])], [(12, 45), (12, 46), (12, 47), (1000, 43), (1000, 44), (1000, 53), (1000, 54)])
def km65_a : List fx_N := []
def km65_s : List fx_D := []
def km65_x : fx_X := ([], [(113, 12, 53)], [], [], [], [(3, 460, 12, km58_c), (12, 457, 12, km64_c), (22, 446, 1000, km61_c)])
set_option maxRecDepth 100000 in
theorem km65_k : fx_chk TM 3 km65_c 0 km65_x t_X12_sources km65_a km65_s 17 = true := by decide +kernel
set_option maxRecDepth 100000 in
theorem km65 {l : Launch} {E : (Nat → Prop) → State → Prop} {ad : List Nat} {D : va_G} {cy : Nat → ClassId} (h : fx_env E D classes (tys cy) nestW) : fx_Met l yX12_sources (.code yX12_sources cX12_sources 3 (some .int) :: wsL_law) ({ frames := 4, cells := 0, slots := 0, locals := 100 }) E (gsM, TM, cy, fun _ => True) ad D classes km65_c :=
  fx_sound (x := km65_x) (tb := t_X12_sources) (an := km65_a) (sp := km65_s) (rk := 0) 17 h (fun _ _ _ _ _ _ => trivial) (fun _ _ _ _ _ _ => trivial) (ht_tys cy) (by decide) rfl ⟨fx_an, (fx_ac fl_X12_113 (fx_an)), fx_an, fx_an, fx_an, (fx_ac (ev_V (km58 h) (by decide) rfl ⟨by decide, by decide⟩ iV_X12_layBoth g_X12_460) (fx_ac (ev_V (km64 h) (by decide) rfl ⟨by decide, by decide⟩ iV_X12_layNeeds g_X12_457) (fx_ac (ev_S (km61 h) ⟨by decide, by decide⟩ iS_X12_place g_X12_446) (fx_an))))⟩ d_X12_sources km65_k
theorem km10_i {l : Launch} {E : (Nat → Prop) → State → Prop} {ad : List Nat} {D : va_G} {cy : Nat → ClassId} (h : fx_env E D classes (tys cy) nestW) : fx_Met l yX12_wordOf (.code yX12_wordOf cX12_wordOf 3 (some .int) :: wsL_law) ({ frames := 0, cells := 0, slots := 0, locals := 0 }) E (gsM, TM, cy, IM) ad D classes km10_c := fx_lift (km10 h) (im_lift (by decide +kernel))
theorem km8_i {l : Launch} {E : (Nat → Prop) → State → Prop} {ad : List Nat} {D : va_G} {cy : Nat → ClassId} (h : fx_env E D classes (tys cy) nestW) : fx_Met l yX12_longOf (.code yX12_longOf cX12_longOf 2 (some .int) :: wsL_law) ({ frames := 0, cells := 0, slots := 0, locals := 0 }) E (gsM, TM, cy, IM) ad D classes km8_c := fx_lift (km8 h) (im_lift (by decide +kernel))
theorem km7_i {l : Launch} {E : (Nat → Prop) → State → Prop} {ad : List Nat} {D : va_G} {cy : Nat → ClassId} (h : fx_env E D classes (tys cy) nestW) : fx_Met l yX12_isSlip (.code yX12_isSlip cX12_isSlip 2 (some .boolean) :: wsL_law) ({ frames := 1, cells := 0, slots := 0, locals := 22 }) E (gsM, TM, cy, IM) ad D classes km7_c := fx_lift (km7 h) (im_lift (by decide +kernel))
-- X12_three 0 i i i
def km66_c : fx_C := ([.inr (.inr 1), .inl (-2147483648, 2147483647), .inl (-2147483648, 2147483647), .inl (-2147483648, 2147483647)], [], [(some (.inl (-1, -1)), [.inr (.inr 1), .inl (-2147483648, 2147483647), .inl (-2147483648, 2147483647), .inl (-2147483648, 2147483647)], [((0, 55), .inl (0, 0))]), (some (.inl (0, 36)), [.inr (.inr 1), .inl (0, 4), .inl (0, 4), .inl (0, 4)], [((0, 45), .inl (0, 8)), ((0, 46), .inl (0, 8)), ((0, 47), .inl (0, 8))])], [(12, 45), (12, 46), (12, 47), (12, 55), (1000, 43), (1000, 44), (1000, 45), (1000, 53), (1000, 54), (1000, 55)])
def km66_a : List fx_N := [(36, [(0, .inr (.inr 1)), (1, .inl (0, 4)), (2, .inl (0, 4)), (3, .inl (0, 4)), (4, .inl (0, 8))], [((0, 45), .inl (0, 8)), ((0, 46), .inl (0, 8)), ((0, 47), .inl (0, 8)), ((0, 55), .inl (0, 0))], [(0, 0), (1, 4), (0, 0)], [(0, 0), (1, 1), (2, 2), (3, 3)])]
def km66_s : List fx_D := []
def km66_x : fx_X := ([], [(101, 12, 44), (443, 12, 47)], [(375, 12, 55, 0), (443, 12, 47, 0)], [], [], [(7, 363, 12, km7_c), (16, 460, 12, km58_c), (27, 381, 12, km8_c), (55, 387, 12, km10_c), (66, 464, 12, km59_c)])
set_option maxRecDepth 100000 in
theorem km66_k : fx_chk TM 5 km66_c 0 km66_x t_X12_three km66_a km66_s 22 = true := by decide +kernel
set_option maxRecDepth 100000 in
theorem km66 {l : Launch} {E : (Nat → Prop) → State → Prop} {ad : List Nat} {D : va_G} {cy : Nat → ClassId} (h : fx_env E D classes (tys cy) nestW) : fx_Met l yX12_three (.code yX12_three cX12_three 5 (some .int) :: wsL_law) ({ frames := 3, cells := 0, slots := 0, locals := 66 }) E (gsM, TM, cy, IM) ad D classes km66_c :=
  fx_sound (x := km66_x) (tb := t_X12_three) (an := km66_a) (sp := km66_s) (rk := 0) 22 h (im_frA (by decide +kernel)) (im_frF (by decide +kernel)) (ht_tys cy) (by decide) rfl ⟨fx_an, (fx_ac fl_X12_101 (fx_ac fl_X12_443 (fx_an))), (fx_ac pl_X12_375 (fx_ac pl_X12_443 (fx_an))), fx_an, fx_an, (fx_ac (ev_V (km7_i h) (by decide) rfl ⟨by decide, by decide⟩ iV_X12_isSlip g_X12_363) (fx_ac (ev_V (km58_i h) (by decide) rfl ⟨by decide, by decide⟩ iV_X12_layBoth g_X12_460) (fx_ac (ev_V (km8_i h) (by decide) rfl ⟨by decide, by decide⟩ iV_X12_longOf g_X12_381) (fx_ac (ev_V (km10_i h) (by decide) rfl ⟨by decide, by decide⟩ iV_X12_wordOf g_X12_387) (fx_ac (ev_V (km59 h) (by decide) rfl ⟨by decide, by decide⟩ iV_X12_showSource g_X12_464) (fx_an))))))⟩ d_X12_three km66_k
-- X12_common 0 i i
def km67_c : fx_C := ([.inr (.inr 1), .inl (-2147483648, 2147483647), .inl (-2147483648, 2147483647)], [], [(some (.inl (-2147483648, 2147483647)), [.inr (.inr 1), .inl (-2147483648, 2147483647), .inl (-2147483648, 2147483647)], [])], [(12, 45), (12, 46), (12, 47), (12, 55), (1000, 43), (1000, 44), (1000, 55), (1000, 57)])
theorem km67 {l : Launch} {E : (Nat → Prop) → State → Prop} {ad : List Nat} {D : va_G} {cy : Nat → ClassId} (h : fx_env E D classes (tys cy) nestW) : fx_Met l yX12_common (.code yX12_common cX12_common 9 (some .int) :: wsL_law) ({ frames := 0, cells := 0, slots := 0, locals := 0 }) E (gsM, TM, cy, fun _ => True) ad D classes km67_c := by
  sorry
-- X12_canLeave 0 i
def km68_c : fx_C := ([.inr (.inr 1), .inl (-2147483648, 2147483647)], [], [(some (.inl (0, 0)), [.inr (.inr 1), .inl (-2147483648, 2147483647)], []), (some (.inl (1, 1)), [.inr (.inr 1), .inl (0, 0)], [((0, 41), .inr (.inr 43)), ((2, 12), .inl (1, 12))]), (some (.inl (0, 0)), [.inr (.inr 1), .inl (0, 0)], [((0, 41), .inr (.inr 43)), ((2, 12), .inl (0, 0))]), (some (.inl (1, 1)), [.inr (.inr 1), .inl (1, 1)], [((0, 41), .inr (.inr 43)), ((2, 12), .inl (2, 12))]), (some (.inl (0, 0)), [.inr (.inr 1), .inl (1, 1)], [((0, 41), .inr (.inr 43)), ((2, 12), .inl (0, 1))]), (some (.inl (1, 1)), [.inr (.inr 1), .inl (2, 2)], [((0, 41), .inr (.inr 43)), ((2, 12), .inl (3, 12))]), (some (.inl (0, 0)), [.inr (.inr 1), .inl (2, 2)], [((0, 41), .inr (.inr 43)), ((2, 12), .inl (0, 2))]), (some (.inl (1, 1)), [.inr (.inr 1), .inl (3, 3)], [((0, 41), .inr (.inr 43)), ((2, 12), .inl (4, 12))]), (some (.inl (0, 0)), [.inr (.inr 1), .inl (3, 3)], [((0, 41), .inr (.inr 43)), ((2, 12), .inl (0, 3))]), (some (.inl (1, 1)), [.inr (.inr 1), .inl (4, 4)], [((0, 41), .inr (.inr 43)), ((2, 12), .inl (5, 12))]), (some (.inl (0, 0)), [.inr (.inr 1), .inl (4, 4)], [((0, 41), .inr (.inr 43)), ((2, 12), .inl (0, 4))])], [])
def km68_a : List fx_N := [(9, [(1, .inl (0, 0)), (0, .inr (.inr 1))], [], [(0, 0)], [(0, 1), (1, 0)]), (9, [(1, .inl (1, 1)), (0, .inr (.inr 1))], [], [(0, 1)], [(0, 1), (1, 0)]), (9, [(1, .inl (2, 2)), (0, .inr (.inr 1))], [], [(0, 2)], [(0, 1), (1, 0)]), (9, [(1, .inl (3, 3)), (0, .inr (.inr 1))], [], [(0, 3)], [(0, 1), (1, 0)]), (9, [(1, .inl (4, 4)), (0, .inr (.inr 1))], [], [(0, 4)], [(0, 1), (1, 0)])]
def km68_s : List fx_D := [(9, [(1, .inl (-2147483648, 2147483647))], [], 0)]
def km68_x : fx_X := ([], [(92, 12, 41)], [], [], [], [(3, 359, 1000, km42_c)])
set_option maxRecDepth 100000 in
theorem km68_k : fx_chk TM 2 km68_c 3 km68_x t_X12_canLeave km68_a km68_s 11 = true := by decide +kernel
set_option maxRecDepth 100000 in
theorem km68 {l : Launch} {E : (Nat → Prop) → State → Prop} {ad : List Nat} {D : va_G} {cy : Nat → ClassId} (h : fx_env E D classes (tys cy) nestW) : fx_Met l yX12_canLeave (.code yX12_canLeave cX12_canLeave 2 (some .boolean) :: wsL_law) ({ frames := 1, cells := 0, slots := 0, locals := 22 }) E (gsM, TM, cy, fun _ => True) ad D classes km68_c :=
  fx_sound (x := km68_x) (tb := t_X12_canLeave) (an := km68_a) (sp := km68_s) (rk := 3) 11 h (fun _ _ _ _ _ _ => trivial) (fun _ _ _ _ _ _ => trivial) (ht_tys cy) (by decide) rfl ⟨fx_an, (fx_ac fl_X12_92 (fx_an)), fx_an, fx_an, fx_an, (fx_ac (ev_S (km42 h) ⟨by decide, by decide⟩ iS_X12_isIn g_X12_359) (fx_an))⟩ d_X12_canLeave km68_k
-- X12_bitsOf i
def km69_c : fx_C := ([.inl (0, 2147483647)], [], [(some (.inl (0, 32)), [.inl (0, 2147483647)], [])], [])
theorem km69 {l : Launch} {E : (Nat → Prop) → State → Prop} {ad : List Nat} {D : va_G} {cy : Nat → ClassId} (h : fx_env E D classes (tys cy) nestW) : fx_Met l yX12_bitsOf (.code yX12_bitsOf cX12_bitsOf 3 (some .int) :: wsL_law) ({ frames := 0, cells := 0, slots := 0, locals := 0 }) E (gsM, TM, cy, fun _ => True) ad D classes km69_c := by
  sorry
-- X12_has i i ('any',) ('c', 0)
def km70_c : fx_C := ([.inl (-1, 2147483647), .inl (0, 0)], [], [(some (.inl (1, 1)), [.inl (-1, 2147483647), .inl (0, 0)], []), (some (.inl (0, 0)), [.inl (-1, 2147483647), .inl (0, 0)], [])], [])
def km70_a : List fx_N := []
def km70_s : List fx_D := []
def km70_x : fx_X := ([], [], [], [], [], [])
set_option maxRecDepth 100000 in
theorem km70_k : fx_chk TM 2 km70_c 3 km70_x t_X12_has km70_a km70_s 12 = true := by decide +kernel
set_option maxRecDepth 100000 in
theorem km70 {l : Launch} {E : (Nat → Prop) → State → Prop} {ad : List Nat} {D : va_G} {cy : Nat → ClassId} (h : fx_env E D classes (tys cy) nestW) : fx_Met l yX12_has (.code yX12_has cX12_has 2 (some .boolean) :: wsL_law) ({ frames := 0, cells := 0, slots := 0, locals := 0 }) E (gsM, TM, cy, fun _ => True) ad D classes km70_c :=
  fx_sound (x := km70_x) (tb := t_X12_has) (an := km70_a) (sp := km70_s) (rk := 3) 12 h (fun _ _ _ _ _ _ => trivial) (fun _ _ _ _ _ _ => trivial) (ht_tys cy) (by decide) rfl ⟨fx_an, fx_an, fx_an, fx_an, fx_an, fx_an⟩ d_X12_has km70_k
-- X12_has i i ('any',) ('c', 1)
def km71_c : fx_C := ([.inl (-1, 2147483647), .inl (1, 1)], [], [(some (.inl (1, 1)), [.inl (-1, 2147483647), .inl (1, 1)], []), (some (.inl (0, 0)), [.inl (-1, 2147483647), .inl (1, 1)], [])], [])
def km71_a : List fx_N := []
def km71_s : List fx_D := []
def km71_x : fx_X := ([], [], [], [], [], [])
set_option maxRecDepth 100000 in
theorem km71_k : fx_chk TM 2 km71_c 3 km71_x t_X12_has km71_a km71_s 12 = true := by decide +kernel
set_option maxRecDepth 100000 in
theorem km71 {l : Launch} {E : (Nat → Prop) → State → Prop} {ad : List Nat} {D : va_G} {cy : Nat → ClassId} (h : fx_env E D classes (tys cy) nestW) : fx_Met l yX12_has (.code yX12_has cX12_has 2 (some .boolean) :: wsL_law) ({ frames := 0, cells := 0, slots := 0, locals := 0 }) E (gsM, TM, cy, fun _ => True) ad D classes km71_c :=
  fx_sound (x := km71_x) (tb := t_X12_has) (an := km71_a) (sp := km71_s) (rk := 3) 12 h (fun _ _ _ _ _ _ => trivial) (fun _ _ _ _ _ _ => trivial) (ht_tys cy) (by decide) rfl ⟨fx_an, fx_an, fx_an, fx_an, fx_an, fx_an⟩ d_X12_has km71_k
-- X12_has i i ('any',) ('c', 2)
def km72_c : fx_C := ([.inl (-1, 2147483647), .inl (2, 2)], [], [(some (.inl (1, 1)), [.inl (-1, 2147483647), .inl (2, 2)], []), (some (.inl (0, 0)), [.inl (-1, 2147483647), .inl (2, 2)], [])], [])
def km72_a : List fx_N := []
def km72_s : List fx_D := []
def km72_x : fx_X := ([], [], [], [], [], [])
set_option maxRecDepth 100000 in
theorem km72_k : fx_chk TM 2 km72_c 3 km72_x t_X12_has km72_a km72_s 12 = true := by decide +kernel
set_option maxRecDepth 100000 in
theorem km72 {l : Launch} {E : (Nat → Prop) → State → Prop} {ad : List Nat} {D : va_G} {cy : Nat → ClassId} (h : fx_env E D classes (tys cy) nestW) : fx_Met l yX12_has (.code yX12_has cX12_has 2 (some .boolean) :: wsL_law) ({ frames := 0, cells := 0, slots := 0, locals := 0 }) E (gsM, TM, cy, fun _ => True) ad D classes km72_c :=
  fx_sound (x := km72_x) (tb := t_X12_has) (an := km72_a) (sp := km72_s) (rk := 3) 12 h (fun _ _ _ _ _ _ => trivial) (fun _ _ _ _ _ _ => trivial) (ht_tys cy) (by decide) rfl ⟨fx_an, fx_an, fx_an, fx_an, fx_an, fx_an⟩ d_X12_has km72_k
-- X12_has i i ('any',) ('c', 3)
def km73_c : fx_C := ([.inl (-1, 2147483647), .inl (3, 3)], [], [(some (.inl (1, 1)), [.inl (-1, 2147483647), .inl (3, 3)], []), (some (.inl (0, 0)), [.inl (-1, 2147483647), .inl (3, 3)], [])], [])
def km73_a : List fx_N := []
def km73_s : List fx_D := []
def km73_x : fx_X := ([], [], [], [], [], [])
set_option maxRecDepth 100000 in
theorem km73_k : fx_chk TM 2 km73_c 3 km73_x t_X12_has km73_a km73_s 12 = true := by decide +kernel
set_option maxRecDepth 100000 in
theorem km73 {l : Launch} {E : (Nat → Prop) → State → Prop} {ad : List Nat} {D : va_G} {cy : Nat → ClassId} (h : fx_env E D classes (tys cy) nestW) : fx_Met l yX12_has (.code yX12_has cX12_has 2 (some .boolean) :: wsL_law) ({ frames := 0, cells := 0, slots := 0, locals := 0 }) E (gsM, TM, cy, fun _ => True) ad D classes km73_c :=
  fx_sound (x := km73_x) (tb := t_X12_has) (an := km73_a) (sp := km73_s) (rk := 3) 12 h (fun _ _ _ _ _ _ => trivial) (fun _ _ _ _ _ _ => trivial) (ht_tys cy) (by decide) rfl ⟨fx_an, fx_an, fx_an, fx_an, fx_an, fx_an⟩ d_X12_has km73_k
-- X12_has i i ('any',) ('c', 4)
def km74_c : fx_C := ([.inl (-1, 2147483647), .inl (4, 4)], [], [(some (.inl (1, 1)), [.inl (-1, 2147483647), .inl (4, 4)], []), (some (.inl (0, 0)), [.inl (-1, 2147483647), .inl (4, 4)], [])], [])
def km74_a : List fx_N := []
def km74_s : List fx_D := []
def km74_x : fx_X := ([], [], [], [], [], [])
set_option maxRecDepth 100000 in
theorem km74_k : fx_chk TM 2 km74_c 3 km74_x t_X12_has km74_a km74_s 12 = true := by decide +kernel
set_option maxRecDepth 100000 in
theorem km74 {l : Launch} {E : (Nat → Prop) → State → Prop} {ad : List Nat} {D : va_G} {cy : Nat → ClassId} (h : fx_env E D classes (tys cy) nestW) : fx_Met l yX12_has (.code yX12_has cX12_has 2 (some .boolean) :: wsL_law) ({ frames := 0, cells := 0, slots := 0, locals := 0 }) E (gsM, TM, cy, fun _ => True) ad D classes km74_c :=
  fx_sound (x := km74_x) (tb := t_X12_has) (an := km74_a) (sp := km74_s) (rk := 3) 12 h (fun _ _ _ _ _ _ => trivial) (fun _ _ _ _ _ _ => trivial) (ht_tys cy) (by decide) rfl ⟨fx_an, fx_an, fx_an, fx_an, fx_an, fx_an⟩ d_X12_has km74_k
-- X12_has i i ('any',) ('c', 5)
def km75_c : fx_C := ([.inl (-1, 2147483647), .inl (5, 5)], [], [(some (.inl (1, 1)), [.inl (-1, 2147483647), .inl (5, 5)], []), (some (.inl (0, 0)), [.inl (-1, 2147483647), .inl (5, 5)], [])], [])
def km75_a : List fx_N := []
def km75_s : List fx_D := []
def km75_x : fx_X := ([], [], [], [], [], [])
set_option maxRecDepth 100000 in
theorem km75_k : fx_chk TM 2 km75_c 3 km75_x t_X12_has km75_a km75_s 12 = true := by decide +kernel
set_option maxRecDepth 100000 in
theorem km75 {l : Launch} {E : (Nat → Prop) → State → Prop} {ad : List Nat} {D : va_G} {cy : Nat → ClassId} (h : fx_env E D classes (tys cy) nestW) : fx_Met l yX12_has (.code yX12_has cX12_has 2 (some .boolean) :: wsL_law) ({ frames := 0, cells := 0, slots := 0, locals := 0 }) E (gsM, TM, cy, fun _ => True) ad D classes km75_c :=
  fx_sound (x := km75_x) (tb := t_X12_has) (an := km75_a) (sp := km75_s) (rk := 3) 12 h (fun _ _ _ _ _ _ => trivial) (fun _ _ _ _ _ _ => trivial) (ht_tys cy) (by decide) rfl ⟨fx_an, fx_an, fx_an, fx_an, fx_an, fx_an⟩ d_X12_has km75_k
-- X12_has i i ('any',) ('c', 6)
def km76_c : fx_C := ([.inl (-1, 2147483647), .inl (6, 6)], [], [(some (.inl (1, 1)), [.inl (-1, 2147483647), .inl (6, 6)], []), (some (.inl (0, 0)), [.inl (-1, 2147483647), .inl (6, 6)], [])], [])
def km76_a : List fx_N := []
def km76_s : List fx_D := []
def km76_x : fx_X := ([], [], [], [], [], [])
set_option maxRecDepth 100000 in
theorem km76_k : fx_chk TM 2 km76_c 3 km76_x t_X12_has km76_a km76_s 12 = true := by decide +kernel
set_option maxRecDepth 100000 in
theorem km76 {l : Launch} {E : (Nat → Prop) → State → Prop} {ad : List Nat} {D : va_G} {cy : Nat → ClassId} (h : fx_env E D classes (tys cy) nestW) : fx_Met l yX12_has (.code yX12_has cX12_has 2 (some .boolean) :: wsL_law) ({ frames := 0, cells := 0, slots := 0, locals := 0 }) E (gsM, TM, cy, fun _ => True) ad D classes km76_c :=
  fx_sound (x := km76_x) (tb := t_X12_has) (an := km76_a) (sp := km76_s) (rk := 3) 12 h (fun _ _ _ _ _ _ => trivial) (fun _ _ _ _ _ _ => trivial) (ht_tys cy) (by decide) rfl ⟨fx_an, fx_an, fx_an, fx_an, fx_an, fx_an⟩ d_X12_has km76_k
-- X12_has i i ('any',) ('c', 7)
def km77_c : fx_C := ([.inl (-1, 2147483647), .inl (7, 7)], [], [(some (.inl (1, 1)), [.inl (-1, 2147483647), .inl (7, 7)], []), (some (.inl (0, 0)), [.inl (-1, 2147483647), .inl (7, 7)], [])], [])
def km77_a : List fx_N := []
def km77_s : List fx_D := []
def km77_x : fx_X := ([], [], [], [], [], [])
set_option maxRecDepth 100000 in
theorem km77_k : fx_chk TM 2 km77_c 3 km77_x t_X12_has km77_a km77_s 12 = true := by decide +kernel
set_option maxRecDepth 100000 in
theorem km77 {l : Launch} {E : (Nat → Prop) → State → Prop} {ad : List Nat} {D : va_G} {cy : Nat → ClassId} (h : fx_env E D classes (tys cy) nestW) : fx_Met l yX12_has (.code yX12_has cX12_has 2 (some .boolean) :: wsL_law) ({ frames := 0, cells := 0, slots := 0, locals := 0 }) E (gsM, TM, cy, fun _ => True) ad D classes km77_c :=
  fx_sound (x := km77_x) (tb := t_X12_has) (an := km77_a) (sp := km77_s) (rk := 3) 12 h (fun _ _ _ _ _ _ => trivial) (fun _ _ _ _ _ _ => trivial) (ht_tys cy) (by decide) rfl ⟨fx_an, fx_an, fx_an, fx_an, fx_an, fx_an⟩ d_X12_has km77_k
-- X12_has i i ('any',) ('c', 8)
def km78_c : fx_C := ([.inl (-1, 2147483647), .inl (8, 8)], [], [(some (.inl (1, 1)), [.inl (-1, 2147483647), .inl (8, 8)], []), (some (.inl (0, 0)), [.inl (-1, 2147483647), .inl (8, 8)], [])], [])
def km78_a : List fx_N := []
def km78_s : List fx_D := []
def km78_x : fx_X := ([], [], [], [], [], [])
set_option maxRecDepth 100000 in
theorem km78_k : fx_chk TM 2 km78_c 3 km78_x t_X12_has km78_a km78_s 12 = true := by decide +kernel
set_option maxRecDepth 100000 in
theorem km78 {l : Launch} {E : (Nat → Prop) → State → Prop} {ad : List Nat} {D : va_G} {cy : Nat → ClassId} (h : fx_env E D classes (tys cy) nestW) : fx_Met l yX12_has (.code yX12_has cX12_has 2 (some .boolean) :: wsL_law) ({ frames := 0, cells := 0, slots := 0, locals := 0 }) E (gsM, TM, cy, fun _ => True) ad D classes km78_c :=
  fx_sound (x := km78_x) (tb := t_X12_has) (an := km78_a) (sp := km78_s) (rk := 3) 12 h (fun _ _ _ _ _ _ => trivial) (fun _ _ _ _ _ _ => trivial) (ht_tys cy) (by decide) rfl ⟨fx_an, fx_an, fx_an, fx_an, fx_an, fx_an⟩ d_X12_has km78_k
-- X12_has i i ('any',) ('c', 9)
def km79_c : fx_C := ([.inl (-1, 2147483647), .inl (9, 9)], [], [(some (.inl (1, 1)), [.inl (-1, 2147483647), .inl (9, 9)], []), (some (.inl (0, 0)), [.inl (-1, 2147483647), .inl (9, 9)], [])], [])
def km79_a : List fx_N := []
def km79_s : List fx_D := []
def km79_x : fx_X := ([], [], [], [], [], [])
set_option maxRecDepth 100000 in
theorem km79_k : fx_chk TM 2 km79_c 3 km79_x t_X12_has km79_a km79_s 12 = true := by decide +kernel
set_option maxRecDepth 100000 in
theorem km79 {l : Launch} {E : (Nat → Prop) → State → Prop} {ad : List Nat} {D : va_G} {cy : Nat → ClassId} (h : fx_env E D classes (tys cy) nestW) : fx_Met l yX12_has (.code yX12_has cX12_has 2 (some .boolean) :: wsL_law) ({ frames := 0, cells := 0, slots := 0, locals := 0 }) E (gsM, TM, cy, fun _ => True) ad D classes km79_c :=
  fx_sound (x := km79_x) (tb := t_X12_has) (an := km79_a) (sp := km79_s) (rk := 3) 12 h (fun _ _ _ _ _ _ => trivial) (fun _ _ _ _ _ _ => trivial) (ht_tys cy) (by decide) rfl ⟨fx_an, fx_an, fx_an, fx_an, fx_an, fx_an⟩ d_X12_has km79_k
-- X12_has i i ('any',) ('c', 10)
def km80_c : fx_C := ([.inl (-1, 2147483647), .inl (10, 10)], [], [(some (.inl (1, 1)), [.inl (-1, 2147483647), .inl (10, 10)], []), (some (.inl (0, 0)), [.inl (-1, 2147483647), .inl (10, 10)], [])], [])
def km80_a : List fx_N := []
def km80_s : List fx_D := []
def km80_x : fx_X := ([], [], [], [], [], [])
set_option maxRecDepth 100000 in
theorem km80_k : fx_chk TM 2 km80_c 3 km80_x t_X12_has km80_a km80_s 12 = true := by decide +kernel
set_option maxRecDepth 100000 in
theorem km80 {l : Launch} {E : (Nat → Prop) → State → Prop} {ad : List Nat} {D : va_G} {cy : Nat → ClassId} (h : fx_env E D classes (tys cy) nestW) : fx_Met l yX12_has (.code yX12_has cX12_has 2 (some .boolean) :: wsL_law) ({ frames := 0, cells := 0, slots := 0, locals := 0 }) E (gsM, TM, cy, fun _ => True) ad D classes km80_c :=
  fx_sound (x := km80_x) (tb := t_X12_has) (an := km80_a) (sp := km80_s) (rk := 3) 12 h (fun _ _ _ _ _ _ => trivial) (fun _ _ _ _ _ _ => trivial) (ht_tys cy) (by decide) rfl ⟨fx_an, fx_an, fx_an, fx_an, fx_an, fx_an⟩ d_X12_has km80_k
-- X12_has i i ('any',) ('c', 11)
def km81_c : fx_C := ([.inl (-1, 2147483647), .inl (11, 11)], [], [(some (.inl (1, 1)), [.inl (-1, 2147483647), .inl (11, 11)], []), (some (.inl (0, 0)), [.inl (-1, 2147483647), .inl (11, 11)], [])], [])
def km81_a : List fx_N := []
def km81_s : List fx_D := []
def km81_x : fx_X := ([], [], [], [], [], [])
set_option maxRecDepth 100000 in
theorem km81_k : fx_chk TM 2 km81_c 3 km81_x t_X12_has km81_a km81_s 12 = true := by decide +kernel
set_option maxRecDepth 100000 in
theorem km81 {l : Launch} {E : (Nat → Prop) → State → Prop} {ad : List Nat} {D : va_G} {cy : Nat → ClassId} (h : fx_env E D classes (tys cy) nestW) : fx_Met l yX12_has (.code yX12_has cX12_has 2 (some .boolean) :: wsL_law) ({ frames := 0, cells := 0, slots := 0, locals := 0 }) E (gsM, TM, cy, fun _ => True) ad D classes km81_c :=
  fx_sound (x := km81_x) (tb := t_X12_has) (an := km81_a) (sp := km81_s) (rk := 3) 12 h (fun _ _ _ _ _ _ => trivial) (fun _ _ _ _ _ _ => trivial) (ht_tys cy) (by decide) rfl ⟨fx_an, fx_an, fx_an, fx_an, fx_an, fx_an⟩ d_X12_has km81_k
