-- X12_layNeed 0 i i i
def km48_c : fx_C := ([.inr (.inr 1), .inl (0, 12), .inl (0, 12), .inl (0, 12)], [], [(none, [.inr (.inr 1), .inl (0, 12), .inl (0, 12), .inl (0, 12)], [])], [(1000, 32), (1000, 33)])
def km48_a : List fx_N := [(78, [(0, .inr (.inr 1)), (1, .inl (0, 12)), (2, .inl (0, 12)), (3, .inl (0, 12)), (4, .inl (0, 2196)), (5, .inl (0, 1)), (6, .inl (0, 9))], [], [(0, 0), (1, 6), (0, 0)], [(0, 0), (1, 1), (2, 2), (3, 3)])]
def km48_s : List fx_D := []
def km48_x : fx_X := ([], [(20, 12, 11), (110, 12, 52), (113, 12, 53), (274, 12, 34), (384, 12, 45), (390, 12, 46), (443, 12, 47)], [], [], [], [(3, 446, 1000, km46_c), (103, 449, 12, km47_c)])
set_option maxRecDepth 100000 in
theorem km48_k : fx_chk TM 9 km48_c 9 km48_x t_X12_layNeed km48_a km48_s 70 = true := by decide +kernel
set_option maxRecDepth 100000 in
theorem km48 {l : Launch} {E : (Nat → Prop) → State → Prop} {ad : List Nat} {D : va_G} {cy : Nat → ClassId} (h : fx_env E D classes (tys cy) nestW) : fx_Met l yX12_layNeed (.code yX12_layNeed cX12_layNeed 9 none :: wsL_law) ({ frames := 2, cells := 0, slots := 0, locals := 49 }) E (gsM, TM, cy, fun _ => True) ad D classes km48_c :=
  fx_sound (x := km48_x) (tb := t_X12_layNeed) (an := km48_a) (sp := km48_s) (rk := 9) 70 h (fun _ _ _ _ _ _ => trivial) (fun _ _ _ _ _ _ => trivial) (ht_tys cy) (by decide) rfl ⟨fx_an, (fx_ac fl_X12_20 (fx_ac fl_X12_110 (fx_ac fl_X12_113 (fx_ac fl_X12_274 (fx_ac fl_X12_384 (fx_ac fl_X12_390 (fx_ac fl_X12_443 (fx_an)))))))), fx_an, fx_an, fx_an, (fx_ac (ev_S (km46 h) ⟨by decide, by decide⟩ iS_X12_place g_X12_446) (fx_ac (ev_V (km47 h) (by decide) rfl ⟨by decide, by decide⟩ iV_X12_stepBy g_X12_449) (fx_an)))⟩ d_X12_layNeed km48_k
-- X12_layNeeds 0
def km49_c : fx_C := ([.inr (.inr 1)], [], [(none, [.inr (.inr 1)], [])], [(1000, 32), (1000, 33)])
def km49_a : List fx_N := [(5, [(0, .inr (.inr 1)), (1, .inl (-1, 12))], [], [(0, 0), (2, 1), (0, 1), (0, 0), (0, 0), (0, 0), (0, 0)], [(0, 0)]), (14, [(0, .inr (.inr 1)), (1, .inl (0, 12)), (2, .inl (-1, 12))], [], [(0, 0), (2, 1), (0, 0), (2, 2), (0, 1), (0, 0), (0, 0)], [(0, 0)]), (23, [(0, .inr (.inr 1)), (1, .inl (0, 12)), (2, .inl (0, 12)), (3, .inl (-1, 12))], [], [(0, 0), (2, 1), (0, 0), (2, 2), (0, 0), (2, 3), (0, 0)], [(0, 0)])]
def km49_s : List fx_D := []
def km49_x : fx_X := ([], [(384, 12, 45), (390, 12, 46), (443, 12, 47)], [], [], [], [(31, 453, 12, km48_c)])
set_option maxRecDepth 100000 in
theorem km49_k : fx_chk TM 4 km49_c 9 km49_x t_X12_layNeeds km49_a km49_s 12 = true := by decide +kernel
set_option maxRecDepth 100000 in
theorem km49 {l : Launch} {E : (Nat → Prop) → State → Prop} {ad : List Nat} {D : va_G} {cy : Nat → ClassId} (h : fx_env E D classes (tys cy) nestW) : fx_Met l yX12_layNeeds (.code yX12_layNeeds cX12_layNeeds 4 none :: wsL_law) ({ frames := 3, cells := 0, slots := 0, locals := 77 }) E (gsM, TM, cy, fun _ => True) ad D classes km49_c :=
  fx_sound (x := km49_x) (tb := t_X12_layNeeds) (an := km49_a) (sp := km49_s) (rk := 9) 12 h (fun _ _ _ _ _ _ => trivial) (fun _ _ _ _ _ _ => trivial) (ht_tys cy) (by decide) rfl ⟨fx_an, (fx_ac fl_X12_384 (fx_ac fl_X12_390 (fx_ac fl_X12_443 (fx_an)))), fx_an, fx_an, fx_an, (fx_ac (ev_V (km48 h) (by decide) rfl ⟨by decide, by decide⟩ iV_X12_layNeed g_X12_453) (fx_an))⟩ d_X12_layNeeds km49_k
-- X12_sources 0 i i
def km50_c : fx_C := ([.inr (.inr 1), .inl (-2147483648, 2147483647), .inl (-2147483648, 2147483647)], [], [(some (.inl (-1, -1)), [.inr (.inr 1), .inl (-2147483648, 2147483647), .inl (-2147483648, 2147483647)], []), (some (.inl (-2147483648, 2147483647)), [.inr (.inr 1), .inl (0, 4), .inl (0, 4)], [((0, 45), .inl (0, 8)), ((0, 46), .inl (0, 8)), ((0, 47), .inl (0, 0))])], [(12, 45), (12, 46), (12, 47), (1000, 27), (1000, 28), (1000, 32), (1000, 33)])
def km50_a : List fx_N := []
def km50_s : List fx_D := []
def km50_x : fx_X := ([], [(113, 12, 53)], [], [], [], [(3, 460, 12, km45_c), (12, 457, 12, km49_c), (22, 446, 1000, km46_c)])
set_option maxRecDepth 100000 in
theorem km50_k : fx_chk TM 3 km50_c 0 km50_x t_X12_sources km50_a km50_s 17 = true := by decide +kernel
set_option maxRecDepth 100000 in
theorem km50 {l : Launch} {E : (Nat → Prop) → State → Prop} {ad : List Nat} {D : va_G} {cy : Nat → ClassId} (h : fx_env E D classes (tys cy) nestW) : fx_Met l yX12_sources (.code yX12_sources cX12_sources 3 (some .int) :: wsL_law) ({ frames := 4, cells := 0, slots := 0, locals := 100 }) E (gsM, TM, cy, fun _ => True) ad D classes km50_c :=
  fx_sound (x := km50_x) (tb := t_X12_sources) (an := km50_a) (sp := km50_s) (rk := 0) 17 h (fun _ _ _ _ _ _ => trivial) (fun _ _ _ _ _ _ => trivial) (ht_tys cy) (by decide) rfl ⟨fx_an, (fx_ac fl_X12_113 (fx_an)), fx_an, fx_an, fx_an, (fx_ac (ev_V (km45 h) (by decide) rfl ⟨by decide, by decide⟩ iV_X12_layBoth g_X12_460) (fx_ac (ev_V (km49 h) (by decide) rfl ⟨by decide, by decide⟩ iV_X12_layNeeds g_X12_457) (fx_ac (ev_S (km46 h) ⟨by decide, by decide⟩ iS_X12_place g_X12_446) (fx_an))))⟩ d_X12_sources km50_k
-- X12_canLeave 0 i
def km51_c : fx_C := ([.inr (.inr 1), .inl (-2147483648, 2147483647)], [], [(some (.inl (0, 0)), [.inr (.inr 1), .inl (-2147483648, 2147483647)], []), (some (.inl (1, 1)), [.inr (.inr 1), .inl (0, 0)], [((0, 41), .inr (.inr 27)), ((2, 12), .inl (1, 12))]), (some (.inl (0, 0)), [.inr (.inr 1), .inl (0, 0)], [((0, 41), .inr (.inr 27)), ((2, 12), .inl (0, 0))]), (some (.inl (1, 1)), [.inr (.inr 1), .inl (1, 1)], [((0, 41), .inr (.inr 27)), ((2, 12), .inl (2, 12))]), (some (.inl (0, 0)), [.inr (.inr 1), .inl (1, 1)], [((0, 41), .inr (.inr 27)), ((2, 12), .inl (0, 1))]), (some (.inl (1, 1)), [.inr (.inr 1), .inl (2, 2)], [((0, 41), .inr (.inr 27)), ((2, 12), .inl (3, 12))]), (some (.inl (0, 0)), [.inr (.inr 1), .inl (2, 2)], [((0, 41), .inr (.inr 27)), ((2, 12), .inl (0, 2))]), (some (.inl (1, 1)), [.inr (.inr 1), .inl (3, 3)], [((0, 41), .inr (.inr 27)), ((2, 12), .inl (4, 12))]), (some (.inl (0, 0)), [.inr (.inr 1), .inl (3, 3)], [((0, 41), .inr (.inr 27)), ((2, 12), .inl (0, 3))]), (some (.inl (1, 1)), [.inr (.inr 1), .inl (4, 4)], [((0, 41), .inr (.inr 27)), ((2, 12), .inl (5, 12))]), (some (.inl (0, 0)), [.inr (.inr 1), .inl (4, 4)], [((0, 41), .inr (.inr 27)), ((2, 12), .inl (0, 4))])], [])
def km51_a : List fx_N := [(9, [(1, .inl (0, 0)), (0, .inr (.inr 1))], [], [(0, 0)], [(0, 1), (1, 0)]), (9, [(1, .inl (1, 1)), (0, .inr (.inr 1))], [], [(0, 1)], [(0, 1), (1, 0)]), (9, [(1, .inl (2, 2)), (0, .inr (.inr 1))], [], [(0, 2)], [(0, 1), (1, 0)]), (9, [(1, .inl (3, 3)), (0, .inr (.inr 1))], [], [(0, 3)], [(0, 1), (1, 0)]), (9, [(1, .inl (4, 4)), (0, .inr (.inr 1))], [], [(0, 4)], [(0, 1), (1, 0)])]
def km51_s : List fx_D := [(9, [(1, .inl (-2147483648, 2147483647))], [], 0)]
def km51_x : fx_X := ([], [(92, 12, 41)], [], [], [], [(3, 359, 1000, km32_c)])
set_option maxRecDepth 100000 in
theorem km51_k : fx_chk TM 2 km51_c 3 km51_x t_X12_canLeave km51_a km51_s 11 = true := by decide +kernel
set_option maxRecDepth 100000 in
theorem km51 {l : Launch} {E : (Nat → Prop) → State → Prop} {ad : List Nat} {D : va_G} {cy : Nat → ClassId} (h : fx_env E D classes (tys cy) nestW) : fx_Met l yX12_canLeave (.code yX12_canLeave cX12_canLeave 2 (some .boolean) :: wsL_law) ({ frames := 1, cells := 0, slots := 0, locals := 22 }) E (gsM, TM, cy, fun _ => True) ad D classes km51_c :=
  fx_sound (x := km51_x) (tb := t_X12_canLeave) (an := km51_a) (sp := km51_s) (rk := 3) 11 h (fun _ _ _ _ _ _ => trivial) (fun _ _ _ _ _ _ => trivial) (ht_tys cy) (by decide) rfl ⟨fx_an, (fx_ac fl_X12_92 (fx_an)), fx_an, fx_an, fx_an, (fx_ac (ev_S (km32 h) ⟨by decide, by decide⟩ iS_X12_isIn g_X12_359) (fx_an))⟩ d_X12_canLeave km51_k
-- X12_has i i ('any',) ('c', 0)
def km52_c : fx_C := ([.inl (-1, 2147483647), .inl (0, 0)], [], [(some (.inl (1, 1)), [.inl (-1, 2147483647), .inl (0, 0)], []), (some (.inl (0, 0)), [.inl (-1, 2147483647), .inl (0, 0)], [])], [])
def km52_a : List fx_N := []
def km52_s : List fx_D := []
def km52_x : fx_X := ([], [], [], [], [], [])
set_option maxRecDepth 100000 in
theorem km52_k : fx_chk TM 2 km52_c 3 km52_x t_X12_has km52_a km52_s 12 = true := by decide +kernel
set_option maxRecDepth 100000 in
theorem km52 {l : Launch} {E : (Nat → Prop) → State → Prop} {ad : List Nat} {D : va_G} {cy : Nat → ClassId} (h : fx_env E D classes (tys cy) nestW) : fx_Met l yX12_has (.code yX12_has cX12_has 2 (some .boolean) :: wsL_law) ({ frames := 0, cells := 0, slots := 0, locals := 0 }) E (gsM, TM, cy, fun _ => True) ad D classes km52_c :=
  fx_sound (x := km52_x) (tb := t_X12_has) (an := km52_a) (sp := km52_s) (rk := 3) 12 h (fun _ _ _ _ _ _ => trivial) (fun _ _ _ _ _ _ => trivial) (ht_tys cy) (by decide) rfl ⟨fx_an, fx_an, fx_an, fx_an, fx_an, fx_an⟩ d_X12_has km52_k
-- X12_has i i ('any',) ('c', 1)
def km53_c : fx_C := ([.inl (-1, 2147483647), .inl (1, 1)], [], [(some (.inl (1, 1)), [.inl (-1, 2147483647), .inl (1, 1)], []), (some (.inl (0, 0)), [.inl (-1, 2147483647), .inl (1, 1)], [])], [])
def km53_a : List fx_N := []
def km53_s : List fx_D := []
def km53_x : fx_X := ([], [], [], [], [], [])
set_option maxRecDepth 100000 in
theorem km53_k : fx_chk TM 2 km53_c 3 km53_x t_X12_has km53_a km53_s 12 = true := by decide +kernel
set_option maxRecDepth 100000 in
theorem km53 {l : Launch} {E : (Nat → Prop) → State → Prop} {ad : List Nat} {D : va_G} {cy : Nat → ClassId} (h : fx_env E D classes (tys cy) nestW) : fx_Met l yX12_has (.code yX12_has cX12_has 2 (some .boolean) :: wsL_law) ({ frames := 0, cells := 0, slots := 0, locals := 0 }) E (gsM, TM, cy, fun _ => True) ad D classes km53_c :=
  fx_sound (x := km53_x) (tb := t_X12_has) (an := km53_a) (sp := km53_s) (rk := 3) 12 h (fun _ _ _ _ _ _ => trivial) (fun _ _ _ _ _ _ => trivial) (ht_tys cy) (by decide) rfl ⟨fx_an, fx_an, fx_an, fx_an, fx_an, fx_an⟩ d_X12_has km53_k
-- X12_has i i ('any',) ('c', 2)
def km54_c : fx_C := ([.inl (-1, 2147483647), .inl (2, 2)], [], [(some (.inl (1, 1)), [.inl (-1, 2147483647), .inl (2, 2)], []), (some (.inl (0, 0)), [.inl (-1, 2147483647), .inl (2, 2)], [])], [])
def km54_a : List fx_N := []
def km54_s : List fx_D := []
def km54_x : fx_X := ([], [], [], [], [], [])
set_option maxRecDepth 100000 in
theorem km54_k : fx_chk TM 2 km54_c 3 km54_x t_X12_has km54_a km54_s 12 = true := by decide +kernel
set_option maxRecDepth 100000 in
theorem km54 {l : Launch} {E : (Nat → Prop) → State → Prop} {ad : List Nat} {D : va_G} {cy : Nat → ClassId} (h : fx_env E D classes (tys cy) nestW) : fx_Met l yX12_has (.code yX12_has cX12_has 2 (some .boolean) :: wsL_law) ({ frames := 0, cells := 0, slots := 0, locals := 0 }) E (gsM, TM, cy, fun _ => True) ad D classes km54_c :=
  fx_sound (x := km54_x) (tb := t_X12_has) (an := km54_a) (sp := km54_s) (rk := 3) 12 h (fun _ _ _ _ _ _ => trivial) (fun _ _ _ _ _ _ => trivial) (ht_tys cy) (by decide) rfl ⟨fx_an, fx_an, fx_an, fx_an, fx_an, fx_an⟩ d_X12_has km54_k
-- X12_has i i ('any',) ('c', 3)
def km55_c : fx_C := ([.inl (-1, 2147483647), .inl (3, 3)], [], [(some (.inl (1, 1)), [.inl (-1, 2147483647), .inl (3, 3)], []), (some (.inl (0, 0)), [.inl (-1, 2147483647), .inl (3, 3)], [])], [])
def km55_a : List fx_N := []
def km55_s : List fx_D := []
def km55_x : fx_X := ([], [], [], [], [], [])
set_option maxRecDepth 100000 in
theorem km55_k : fx_chk TM 2 km55_c 3 km55_x t_X12_has km55_a km55_s 12 = true := by decide +kernel
set_option maxRecDepth 100000 in
theorem km55 {l : Launch} {E : (Nat → Prop) → State → Prop} {ad : List Nat} {D : va_G} {cy : Nat → ClassId} (h : fx_env E D classes (tys cy) nestW) : fx_Met l yX12_has (.code yX12_has cX12_has 2 (some .boolean) :: wsL_law) ({ frames := 0, cells := 0, slots := 0, locals := 0 }) E (gsM, TM, cy, fun _ => True) ad D classes km55_c :=
  fx_sound (x := km55_x) (tb := t_X12_has) (an := km55_a) (sp := km55_s) (rk := 3) 12 h (fun _ _ _ _ _ _ => trivial) (fun _ _ _ _ _ _ => trivial) (ht_tys cy) (by decide) rfl ⟨fx_an, fx_an, fx_an, fx_an, fx_an, fx_an⟩ d_X12_has km55_k
-- X12_has i i ('any',) ('c', 4)
def km56_c : fx_C := ([.inl (-1, 2147483647), .inl (4, 4)], [], [(some (.inl (1, 1)), [.inl (-1, 2147483647), .inl (4, 4)], []), (some (.inl (0, 0)), [.inl (-1, 2147483647), .inl (4, 4)], [])], [])
def km56_a : List fx_N := []
def km56_s : List fx_D := []
def km56_x : fx_X := ([], [], [], [], [], [])
set_option maxRecDepth 100000 in
theorem km56_k : fx_chk TM 2 km56_c 3 km56_x t_X12_has km56_a km56_s 12 = true := by decide +kernel
set_option maxRecDepth 100000 in
theorem km56 {l : Launch} {E : (Nat → Prop) → State → Prop} {ad : List Nat} {D : va_G} {cy : Nat → ClassId} (h : fx_env E D classes (tys cy) nestW) : fx_Met l yX12_has (.code yX12_has cX12_has 2 (some .boolean) :: wsL_law) ({ frames := 0, cells := 0, slots := 0, locals := 0 }) E (gsM, TM, cy, fun _ => True) ad D classes km56_c :=
  fx_sound (x := km56_x) (tb := t_X12_has) (an := km56_a) (sp := km56_s) (rk := 3) 12 h (fun _ _ _ _ _ _ => trivial) (fun _ _ _ _ _ _ => trivial) (ht_tys cy) (by decide) rfl ⟨fx_an, fx_an, fx_an, fx_an, fx_an, fx_an⟩ d_X12_has km56_k
-- X12_has i i ('any',) ('c', 5)
def km57_c : fx_C := ([.inl (-1, 2147483647), .inl (5, 5)], [], [(some (.inl (1, 1)), [.inl (-1, 2147483647), .inl (5, 5)], []), (some (.inl (0, 0)), [.inl (-1, 2147483647), .inl (5, 5)], [])], [])
def km57_a : List fx_N := []
def km57_s : List fx_D := []
def km57_x : fx_X := ([], [], [], [], [], [])
set_option maxRecDepth 100000 in
theorem km57_k : fx_chk TM 2 km57_c 3 km57_x t_X12_has km57_a km57_s 12 = true := by decide +kernel
set_option maxRecDepth 100000 in
theorem km57 {l : Launch} {E : (Nat → Prop) → State → Prop} {ad : List Nat} {D : va_G} {cy : Nat → ClassId} (h : fx_env E D classes (tys cy) nestW) : fx_Met l yX12_has (.code yX12_has cX12_has 2 (some .boolean) :: wsL_law) ({ frames := 0, cells := 0, slots := 0, locals := 0 }) E (gsM, TM, cy, fun _ => True) ad D classes km57_c :=
  fx_sound (x := km57_x) (tb := t_X12_has) (an := km57_a) (sp := km57_s) (rk := 3) 12 h (fun _ _ _ _ _ _ => trivial) (fun _ _ _ _ _ _ => trivial) (ht_tys cy) (by decide) rfl ⟨fx_an, fx_an, fx_an, fx_an, fx_an, fx_an⟩ d_X12_has km57_k
-- X12_has i i ('any',) ('c', 6)
def km58_c : fx_C := ([.inl (-1, 2147483647), .inl (6, 6)], [], [(some (.inl (1, 1)), [.inl (-1, 2147483647), .inl (6, 6)], []), (some (.inl (0, 0)), [.inl (-1, 2147483647), .inl (6, 6)], [])], [])
def km58_a : List fx_N := []
def km58_s : List fx_D := []
def km58_x : fx_X := ([], [], [], [], [], [])
set_option maxRecDepth 100000 in
theorem km58_k : fx_chk TM 2 km58_c 3 km58_x t_X12_has km58_a km58_s 12 = true := by decide +kernel
set_option maxRecDepth 100000 in
theorem km58 {l : Launch} {E : (Nat → Prop) → State → Prop} {ad : List Nat} {D : va_G} {cy : Nat → ClassId} (h : fx_env E D classes (tys cy) nestW) : fx_Met l yX12_has (.code yX12_has cX12_has 2 (some .boolean) :: wsL_law) ({ frames := 0, cells := 0, slots := 0, locals := 0 }) E (gsM, TM, cy, fun _ => True) ad D classes km58_c :=
  fx_sound (x := km58_x) (tb := t_X12_has) (an := km58_a) (sp := km58_s) (rk := 3) 12 h (fun _ _ _ _ _ _ => trivial) (fun _ _ _ _ _ _ => trivial) (ht_tys cy) (by decide) rfl ⟨fx_an, fx_an, fx_an, fx_an, fx_an, fx_an⟩ d_X12_has km58_k
-- X12_has i i ('any',) ('c', 7)
def km59_c : fx_C := ([.inl (-1, 2147483647), .inl (7, 7)], [], [(some (.inl (1, 1)), [.inl (-1, 2147483647), .inl (7, 7)], []), (some (.inl (0, 0)), [.inl (-1, 2147483647), .inl (7, 7)], [])], [])
def km59_a : List fx_N := []
def km59_s : List fx_D := []
def km59_x : fx_X := ([], [], [], [], [], [])
set_option maxRecDepth 100000 in
theorem km59_k : fx_chk TM 2 km59_c 3 km59_x t_X12_has km59_a km59_s 12 = true := by decide +kernel
set_option maxRecDepth 100000 in
theorem km59 {l : Launch} {E : (Nat → Prop) → State → Prop} {ad : List Nat} {D : va_G} {cy : Nat → ClassId} (h : fx_env E D classes (tys cy) nestW) : fx_Met l yX12_has (.code yX12_has cX12_has 2 (some .boolean) :: wsL_law) ({ frames := 0, cells := 0, slots := 0, locals := 0 }) E (gsM, TM, cy, fun _ => True) ad D classes km59_c :=
  fx_sound (x := km59_x) (tb := t_X12_has) (an := km59_a) (sp := km59_s) (rk := 3) 12 h (fun _ _ _ _ _ _ => trivial) (fun _ _ _ _ _ _ => trivial) (ht_tys cy) (by decide) rfl ⟨fx_an, fx_an, fx_an, fx_an, fx_an, fx_an⟩ d_X12_has km59_k
-- X12_has i i ('any',) ('c', 8)
def km60_c : fx_C := ([.inl (-1, 2147483647), .inl (8, 8)], [], [(some (.inl (1, 1)), [.inl (-1, 2147483647), .inl (8, 8)], []), (some (.inl (0, 0)), [.inl (-1, 2147483647), .inl (8, 8)], [])], [])
def km60_a : List fx_N := []
def km60_s : List fx_D := []
def km60_x : fx_X := ([], [], [], [], [], [])
set_option maxRecDepth 100000 in
theorem km60_k : fx_chk TM 2 km60_c 3 km60_x t_X12_has km60_a km60_s 12 = true := by decide +kernel
set_option maxRecDepth 100000 in
theorem km60 {l : Launch} {E : (Nat → Prop) → State → Prop} {ad : List Nat} {D : va_G} {cy : Nat → ClassId} (h : fx_env E D classes (tys cy) nestW) : fx_Met l yX12_has (.code yX12_has cX12_has 2 (some .boolean) :: wsL_law) ({ frames := 0, cells := 0, slots := 0, locals := 0 }) E (gsM, TM, cy, fun _ => True) ad D classes km60_c :=
  fx_sound (x := km60_x) (tb := t_X12_has) (an := km60_a) (sp := km60_s) (rk := 3) 12 h (fun _ _ _ _ _ _ => trivial) (fun _ _ _ _ _ _ => trivial) (ht_tys cy) (by decide) rfl ⟨fx_an, fx_an, fx_an, fx_an, fx_an, fx_an⟩ d_X12_has km60_k
-- X12_has i i ('any',) ('c', 9)
def km61_c : fx_C := ([.inl (-1, 2147483647), .inl (9, 9)], [], [(some (.inl (1, 1)), [.inl (-1, 2147483647), .inl (9, 9)], []), (some (.inl (0, 0)), [.inl (-1, 2147483647), .inl (9, 9)], [])], [])
def km61_a : List fx_N := []
def km61_s : List fx_D := []
def km61_x : fx_X := ([], [], [], [], [], [])
set_option maxRecDepth 100000 in
theorem km61_k : fx_chk TM 2 km61_c 3 km61_x t_X12_has km61_a km61_s 12 = true := by decide +kernel
set_option maxRecDepth 100000 in
theorem km61 {l : Launch} {E : (Nat → Prop) → State → Prop} {ad : List Nat} {D : va_G} {cy : Nat → ClassId} (h : fx_env E D classes (tys cy) nestW) : fx_Met l yX12_has (.code yX12_has cX12_has 2 (some .boolean) :: wsL_law) ({ frames := 0, cells := 0, slots := 0, locals := 0 }) E (gsM, TM, cy, fun _ => True) ad D classes km61_c :=
  fx_sound (x := km61_x) (tb := t_X12_has) (an := km61_a) (sp := km61_s) (rk := 3) 12 h (fun _ _ _ _ _ _ => trivial) (fun _ _ _ _ _ _ => trivial) (ht_tys cy) (by decide) rfl ⟨fx_an, fx_an, fx_an, fx_an, fx_an, fx_an⟩ d_X12_has km61_k
-- X12_has i i ('any',) ('c', 10)
def km62_c : fx_C := ([.inl (-1, 2147483647), .inl (10, 10)], [], [(some (.inl (1, 1)), [.inl (-1, 2147483647), .inl (10, 10)], []), (some (.inl (0, 0)), [.inl (-1, 2147483647), .inl (10, 10)], [])], [])
def km62_a : List fx_N := []
def km62_s : List fx_D := []
def km62_x : fx_X := ([], [], [], [], [], [])
set_option maxRecDepth 100000 in
theorem km62_k : fx_chk TM 2 km62_c 3 km62_x t_X12_has km62_a km62_s 12 = true := by decide +kernel
set_option maxRecDepth 100000 in
theorem km62 {l : Launch} {E : (Nat → Prop) → State → Prop} {ad : List Nat} {D : va_G} {cy : Nat → ClassId} (h : fx_env E D classes (tys cy) nestW) : fx_Met l yX12_has (.code yX12_has cX12_has 2 (some .boolean) :: wsL_law) ({ frames := 0, cells := 0, slots := 0, locals := 0 }) E (gsM, TM, cy, fun _ => True) ad D classes km62_c :=
  fx_sound (x := km62_x) (tb := t_X12_has) (an := km62_a) (sp := km62_s) (rk := 3) 12 h (fun _ _ _ _ _ _ => trivial) (fun _ _ _ _ _ _ => trivial) (ht_tys cy) (by decide) rfl ⟨fx_an, fx_an, fx_an, fx_an, fx_an, fx_an⟩ d_X12_has km62_k
-- X12_has i i ('any',) ('c', 11)
def km63_c : fx_C := ([.inl (-1, 2147483647), .inl (11, 11)], [], [(some (.inl (1, 1)), [.inl (-1, 2147483647), .inl (11, 11)], []), (some (.inl (0, 0)), [.inl (-1, 2147483647), .inl (11, 11)], [])], [])
def km63_a : List fx_N := []
def km63_s : List fx_D := []
def km63_x : fx_X := ([], [], [], [], [], [])
set_option maxRecDepth 100000 in
theorem km63_k : fx_chk TM 2 km63_c 3 km63_x t_X12_has km63_a km63_s 12 = true := by decide +kernel
set_option maxRecDepth 100000 in
theorem km63 {l : Launch} {E : (Nat → Prop) → State → Prop} {ad : List Nat} {D : va_G} {cy : Nat → ClassId} (h : fx_env E D classes (tys cy) nestW) : fx_Met l yX12_has (.code yX12_has cX12_has 2 (some .boolean) :: wsL_law) ({ frames := 0, cells := 0, slots := 0, locals := 0 }) E (gsM, TM, cy, fun _ => True) ad D classes km63_c :=
  fx_sound (x := km63_x) (tb := t_X12_has) (an := km63_a) (sp := km63_s) (rk := 3) 12 h (fun _ _ _ _ _ _ => trivial) (fun _ _ _ _ _ _ => trivial) (ht_tys cy) (by decide) rfl ⟨fx_an, fx_an, fx_an, fx_an, fx_an, fx_an⟩ d_X12_has km63_k
-- X12_layWithout 0 i ('any',)
def km64_c : fx_C := ([.inr (.inr 1), .inl (0, 2147483647)], [], [(none, [.inr (.inr 1), .inl (0, 2147483647)], [])], [(12, 45), (1000, 27)])
def km64_a : List fx_N := [(7, [(2, .inl (0, 0)), (0, .inr (.inr 1)), (1, .inl (0, 2147483647))], [((1, 45), .inl (0, 0))], [(0, 12)], [(0, 1), (1, 2)]), (7, [(2, .inl (1, 1)), (0, .inr (.inr 1)), (1, .inl (0, 2147483647))], [((1, 45), .inl (0, 1)), ((1, 41), .inr (.inr 27)), ((4, 12), .inl (1, 12))], [(0, 11)], [(0, 1), (1, 2)]), (7, [(2, .inl (2, 2)), (0, .inr (.inr 1)), (1, .inl (0, 2147483647))], [((1, 45), .inl (0, 2)), ((1, 41), .inr (.inr 27)), ((4, 12), .inl (2, 12))], [(0, 10)], [(0, 1), (1, 2)]), (7, [(2, .inl (3, 3)), (0, .inr (.inr 1)), (1, .inl (0, 2147483647))], [((1, 45), .inl (0, 3)), ((1, 41), .inr (.inr 27)), ((4, 12), .inl (3, 12))], [(0, 9)], [(0, 1), (1, 2)]), (7, [(2, .inl (4, 4)), (0, .inr (.inr 1)), (1, .inl (0, 2147483647))], [((1, 45), .inl (0, 4)), ((1, 41), .inr (.inr 27)), ((4, 12), .inl (4, 12))], [(0, 8)], [(0, 1), (1, 2)]), (7, [(2, .inl (5, 5)), (0, .inr (.inr 1)), (1, .inl (0, 2147483647))], [((1, 45), .inl (0, 5)), ((1, 41), .inr (.inr 27)), ((4, 12), .inl (5, 12))], [(0, 7)], [(0, 1), (1, 2)]), (7, [(2, .inl (6, 6)), (0, .inr (.inr 1)), (1, .inl (0, 2147483647))], [((1, 45), .inl (0, 6)), ((1, 41), .inr (.inr 27)), ((4, 12), .inl (6, 12))], [(0, 6)], [(0, 1), (1, 2)]), (7, [(2, .inl (7, 7)), (0, .inr (.inr 1)), (1, .inl (0, 2147483647))], [((1, 45), .inl (0, 7)), ((1, 41), .inr (.inr 27)), ((4, 12), .inl (7, 12))], [(0, 5)], [(0, 1), (1, 2)]), (7, [(2, .inl (8, 8)), (0, .inr (.inr 1)), (1, .inl (0, 2147483647))], [((1, 45), .inl (0, 8)), ((1, 41), .inr (.inr 27)), ((4, 12), .inl (8, 12))], [(0, 4)], [(0, 1), (1, 2)]), (7, [(2, .inl (9, 9)), (0, .inr (.inr 1)), (1, .inl (0, 2147483647))], [((1, 45), .inl (0, 9)), ((1, 41), .inr (.inr 27)), ((4, 12), .inl (9, 12))], [(0, 3)], [(0, 1), (1, 2)]), (7, [(2, .inl (10, 10)), (0, .inr (.inr 1)), (1, .inl (0, 2147483647))], [((1, 45), .inl (0, 10)), ((1, 41), .inr (.inr 27)), ((4, 12), .inl (10, 12))], [(0, 2)], [(0, 1), (1, 2)]), (7, [(2, .inl (11, 11)), (0, .inr (.inr 1)), (1, .inl (0, 2147483647))], [((1, 45), .inl (0, 11)), ((1, 41), .inr (.inr 27)), ((4, 12), .inl (11, 12))], [(0, 1)], [(0, 1), (1, 2)]), (7, [(2, .inl (12, 12)), (0, .inr (.inr 1)), (1, .inl (0, 2147483647))], [((1, 41), .inr (.inr 27)), ((3, 12), .inl (12, 12))], [(0, 0)], [(0, 1), (1, 2)])]
def km64_s : List fx_D := []
def km64_x : fx_X := ([], [(92, 12, 41), (95, 12, 42), (384, 12, 45)], [(384, 12, 45, 0)], [], [], [(20, 474, 1000, km52_c), (20, 474, 1000, km53_c), (20, 474, 1000, km54_c), (20, 474, 1000, km55_c), (20, 474, 1000, km56_c), (20, 474, 1000, km57_c), (20, 474, 1000, km58_c), (20, 474, 1000, km59_c), (20, 474, 1000, km60_c), (20, 474, 1000, km61_c), (20, 474, 1000, km62_c), (20, 474, 1000, km63_c)])
set_option maxRecDepth 100000 in
theorem km64_k : fx_chk TM 3 km64_c 9 km64_x t_X12_layWithout km64_a km64_s 32 = true := by decide +kernel
set_option maxRecDepth 100000 in
theorem km64 {l : Launch} {E : (Nat → Prop) → State → Prop} {ad : List Nat} {D : va_G} {cy : Nat → ClassId} (h : fx_env E D classes (tys cy) nestW) : fx_Met l yX12_layWithout (.code yX12_layWithout cX12_layWithout 3 none :: wsL_law) ({ frames := 1, cells := 0, slots := 0, locals := 21 }) E (gsM, TM, cy, fun _ => True) ad D classes km64_c :=
  fx_sound (x := km64_x) (tb := t_X12_layWithout) (an := km64_a) (sp := km64_s) (rk := 9) 32 h (fun _ _ _ _ _ _ => trivial) (fun _ _ _ _ _ _ => trivial) (ht_tys cy) (by decide) rfl ⟨fx_an, (fx_ac fl_X12_92 (fx_ac fl_X12_95 (fx_ac fl_X12_384 (fx_an)))), (fx_ac pl_X12_384 (fx_an)), fx_an, fx_an, (fx_ac (ev_S (km52 h) ⟨by decide, by decide⟩ iS_X12_has g_X12_474) (fx_ac (ev_S (km53 h) ⟨by decide, by decide⟩ iS_X12_has g_X12_474) (fx_ac (ev_S (km54 h) ⟨by decide, by decide⟩ iS_X12_has g_X12_474) (fx_ac (ev_S (km55 h) ⟨by decide, by decide⟩ iS_X12_has g_X12_474) (fx_ac (ev_S (km56 h) ⟨by decide, by decide⟩ iS_X12_has g_X12_474) (fx_ac (ev_S (km57 h) ⟨by decide, by decide⟩ iS_X12_has g_X12_474) (fx_ac (ev_S (km58 h) ⟨by decide, by decide⟩ iS_X12_has g_X12_474) (fx_ac (ev_S (km59 h) ⟨by decide, by decide⟩ iS_X12_has g_X12_474) (fx_ac (ev_S (km60 h) ⟨by decide, by decide⟩ iS_X12_has g_X12_474) (fx_ac (ev_S (km61 h) ⟨by decide, by decide⟩ iS_X12_has g_X12_474) (fx_ac (ev_S (km62 h) ⟨by decide, by decide⟩ iS_X12_has g_X12_474) (fx_ac (ev_S (km63 h) ⟨by decide, by decide⟩ iS_X12_has g_X12_474) (fx_an)))))))))))))⟩ d_X12_layWithout km64_k
-- X12_isAhead i i
def km65_c : fx_C := ([.inl (0, 2147483647), .inl (0, 2147483647)], [], [(some (.inl (1, 1)), [.inl (0, 2147483647), .inl (0, 2147483647)], []), (some (.inl (0, 0)), [.inl (0, 2147483647), .inl (0, 2147483647)], [])], [])
def km65_a : List fx_N := []
def km65_s : List fx_D := []
def km65_x : fx_X := ([], [], [], [], [], [])
set_option maxRecDepth 100000 in
theorem km65_k : fx_chk TM 3 km65_c 3 km65_x t_X12_isAhead km65_a km65_s 16 = true := by decide +kernel
set_option maxRecDepth 100000 in
theorem km65 {l : Launch} {E : (Nat → Prop) → State → Prop} {ad : List Nat} {D : va_G} {cy : Nat → ClassId} (h : fx_env E D classes (tys cy) nestW) : fx_Met l yX12_isAhead (.code yX12_isAhead cX12_isAhead 3 (some .boolean) :: wsL_law) ({ frames := 0, cells := 0, slots := 0, locals := 0 }) E (gsM, TM, cy, fun _ => True) ad D classes km65_c :=
  fx_sound (x := km65_x) (tb := t_X12_isAhead) (an := km65_a) (sp := km65_s) (rk := 3) 16 h (fun _ _ _ _ _ _ => trivial) (fun _ _ _ _ _ _ => trivial) (ht_tys cy) (by decide) rfl ⟨fx_an, fx_an, fx_an, fx_an, fx_an, fx_an⟩ d_X12_isAhead km65_k
-- X12_choices i i ('c', 4)
def km66_c : fx_C := ([.inl (4, 12), .inl (4, 4)], [], [(some (.inl (1, 495)), [.inl (4, 12), .inl (4, 4)], [])], [])
def km66_a : List fx_N := [(4, [(3, .inl (1, 1)), (0, .inl (4, 12)), (1, .inl (4, 4)), (2, .inl (1, 1))], [], [(0, 4)], [(0, 1), (1, 2)]), (4, [(3, .inl (2, 2)), (0, .inl (4, 12)), (1, .inl (4, 4)), (2, .inl (4, 12))], [], [(0, 3)], [(0, 1), (1, 2)]), (4, [(3, .inl (3, 3)), (0, .inl (4, 12)), (1, .inl (4, 4)), (2, .inl (6, 66))], [], [(0, 2)], [(0, 1), (1, 2)]), (4, [(3, .inl (4, 4)), (0, .inl (4, 12)), (1, .inl (4, 4)), (2, .inl (4, 220))], [], [(0, 1)], [(0, 1), (1, 2)]), (4, [(3, .inl (5, 5)), (0, .inl (4, 12)), (1, .inl (4, 4)), (2, .inl (1, 495))], [], [(0, 0)], [(0, 1), (1, 2)])]
def km66_s : List fx_D := []
def km66_x : fx_X := ([], [], [], [], [], [])
set_option maxRecDepth 100000 in
theorem km66_k : fx_chk TM 4 km66_c 0 km66_x t_X12_choices km66_a km66_s 18 = true := by decide +kernel
set_option maxRecDepth 100000 in
theorem km66 {l : Launch} {E : (Nat → Prop) → State → Prop} {ad : List Nat} {D : va_G} {cy : Nat → ClassId} (h : fx_env E D classes (tys cy) nestW) : fx_Met l yX12_choices (.code yX12_choices cX12_choices 4 (some .int) :: wsL_law) ({ frames := 0, cells := 0, slots := 0, locals := 0 }) E (gsM, TM, cy, fun _ => True) ad D classes km66_c :=
  fx_sound (x := km66_x) (tb := t_X12_choices) (an := km66_a) (sp := km66_s) (rk := 0) 18 h (fun _ _ _ _ _ _ => trivial) (fun _ _ _ _ _ _ => trivial) (ht_tys cy) (by decide) rfl ⟨fx_an, fx_an, fx_an, fx_an, fx_an, fx_an⟩ d_X12_choices km66_k
-- X12_choices i i ('c', 3)
def km67_c : fx_C := ([.inl (3, 12), .inl (3, 3)], [], [(some (.inl (1, 220)), [.inl (3, 12), .inl (3, 3)], [])], [])
def km67_a : List fx_N := [(4, [(3, .inl (1, 1)), (0, .inl (3, 12)), (1, .inl (3, 3)), (2, .inl (1, 1))], [], [(0, 3)], [(0, 1), (1, 2)]), (4, [(3, .inl (2, 2)), (0, .inl (3, 12)), (1, .inl (3, 3)), (2, .inl (3, 12))], [], [(0, 2)], [(0, 1), (1, 2)]), (4, [(3, .inl (3, 3)), (0, .inl (3, 12)), (1, .inl (3, 3)), (2, .inl (3, 66))], [], [(0, 1)], [(0, 1), (1, 2)]), (4, [(3, .inl (4, 4)), (0, .inl (3, 12)), (1, .inl (3, 3)), (2, .inl (1, 220))], [], [(0, 0)], [(0, 1), (1, 2)])]
def km67_s : List fx_D := []
def km67_x : fx_X := ([], [], [], [], [], [])
set_option maxRecDepth 100000 in
theorem km67_k : fx_chk TM 4 km67_c 0 km67_x t_X12_choices km67_a km67_s 18 = true := by decide +kernel
set_option maxRecDepth 100000 in
theorem km67 {l : Launch} {E : (Nat → Prop) → State → Prop} {ad : List Nat} {D : va_G} {cy : Nat → ClassId} (h : fx_env E D classes (tys cy) nestW) : fx_Met l yX12_choices (.code yX12_choices cX12_choices 4 (some .int) :: wsL_law) ({ frames := 0, cells := 0, slots := 0, locals := 0 }) E (gsM, TM, cy, fun _ => True) ad D classes km67_c :=
  fx_sound (x := km67_x) (tb := t_X12_choices) (an := km67_a) (sp := km67_s) (rk := 0) 18 h (fun _ _ _ _ _ _ => trivial) (fun _ _ _ _ _ _ => trivial) (ht_tys cy) (by decide) rfl ⟨fx_an, fx_an, fx_an, fx_an, fx_an, fx_an⟩ d_X12_choices km67_k
-- X12_choices i i ('c', 2)
def km68_c : fx_C := ([.inl (2, 12), .inl (2, 2)], [], [(some (.inl (1, 66)), [.inl (2, 12), .inl (2, 2)], [])], [])
def km68_a : List fx_N := [(4, [(3, .inl (1, 1)), (0, .inl (2, 12)), (1, .inl (2, 2)), (2, .inl (1, 1))], [], [(0, 2)], [(0, 1), (1, 2)]), (4, [(3, .inl (2, 2)), (0, .inl (2, 12)), (1, .inl (2, 2)), (2, .inl (2, 12))], [], [(0, 1)], [(0, 1), (1, 2)]), (4, [(3, .inl (3, 3)), (0, .inl (2, 12)), (1, .inl (2, 2)), (2, .inl (1, 66))], [], [(0, 0)], [(0, 1), (1, 2)])]
def km68_s : List fx_D := []
def km68_x : fx_X := ([], [], [], [], [], [])
set_option maxRecDepth 100000 in
theorem km68_k : fx_chk TM 4 km68_c 0 km68_x t_X12_choices km68_a km68_s 18 = true := by decide +kernel
set_option maxRecDepth 100000 in
theorem km68 {l : Launch} {E : (Nat → Prop) → State → Prop} {ad : List Nat} {D : va_G} {cy : Nat → ClassId} (h : fx_env E D classes (tys cy) nestW) : fx_Met l yX12_choices (.code yX12_choices cX12_choices 4 (some .int) :: wsL_law) ({ frames := 0, cells := 0, slots := 0, locals := 0 }) E (gsM, TM, cy, fun _ => True) ad D classes km68_c :=
  fx_sound (x := km68_x) (tb := t_X12_choices) (an := km68_a) (sp := km68_s) (rk := 0) 18 h (fun _ _ _ _ _ _ => trivial) (fun _ _ _ _ _ _ => trivial) (ht_tys cy) (by decide) rfl ⟨fx_an, fx_an, fx_an, fx_an, fx_an, fx_an⟩ d_X12_choices km68_k
-- X12_choices i i ('c', 1)
def km69_c : fx_C := ([.inl (1, 12), .inl (1, 1)], [], [(some (.inl (1, 12)), [.inl (1, 12), .inl (1, 1)], [])], [])
def km69_a : List fx_N := [(4, [(3, .inl (1, 1)), (0, .inl (1, 12)), (1, .inl (1, 1)), (2, .inl (1, 1))], [], [(0, 1)], [(0, 1), (1, 2)]), (4, [(3, .inl (2, 2)), (0, .inl (1, 12)), (1, .inl (1, 1)), (2, .inl (1, 12))], [], [(0, 0)], [(0, 1), (1, 2)])]
def km69_s : List fx_D := []
def km69_x : fx_X := ([], [], [], [], [], [])
set_option maxRecDepth 100000 in
theorem km69_k : fx_chk TM 4 km69_c 0 km69_x t_X12_choices km69_a km69_s 18 = true := by decide +kernel
set_option maxRecDepth 100000 in
theorem km69 {l : Launch} {E : (Nat → Prop) → State → Prop} {ad : List Nat} {D : va_G} {cy : Nat → ClassId} (h : fx_env E D classes (tys cy) nestW) : fx_Met l yX12_choices (.code yX12_choices cX12_choices 4 (some .int) :: wsL_law) ({ frames := 0, cells := 0, slots := 0, locals := 0 }) E (gsM, TM, cy, fun _ => True) ad D classes km69_c :=
  fx_sound (x := km69_x) (tb := t_X12_choices) (an := km69_a) (sp := km69_s) (rk := 0) 18 h (fun _ _ _ _ _ _ => trivial) (fun _ _ _ _ _ _ => trivial) (ht_tys cy) (by decide) rfl ⟨fx_an, fx_an, fx_an, fx_an, fx_an, fx_an⟩ d_X12_choices km69_k
-- X12_choices i i ('c', 0)
def km70_c : fx_C := ([.inl (0, 12), .inl (0, 0)], [], [(some (.inl (1, 1)), [.inl (0, 12), .inl (0, 0)], [])], [])
def km70_a : List fx_N := [(4, [(3, .inl (1, 1)), (0, .inl (0, 12)), (1, .inl (0, 0)), (2, .inl (1, 1))], [], [(0, 0)], [(0, 1), (1, 2)])]
def km70_s : List fx_D := []
def km70_x : fx_X := ([], [], [], [], [], [])
set_option maxRecDepth 100000 in
theorem km70_k : fx_chk TM 4 km70_c 0 km70_x t_X12_choices km70_a km70_s 7 = true := by decide +kernel
set_option maxRecDepth 100000 in
theorem km70 {l : Launch} {E : (Nat → Prop) → State → Prop} {ad : List Nat} {D : va_G} {cy : Nat → ClassId} (h : fx_env E D classes (tys cy) nestW) : fx_Met l yX12_choices (.code yX12_choices cX12_choices 4 (some .int) :: wsL_law) ({ frames := 0, cells := 0, slots := 0, locals := 0 }) E (gsM, TM, cy, fun _ => True) ad D classes km70_c :=
  fx_sound (x := km70_x) (tb := t_X12_choices) (an := km70_a) (sp := km70_s) (rk := 0) 7 h (fun _ _ _ _ _ _ => trivial) (fun _ _ _ _ _ _ => trivial) (ht_tys cy) (by decide) rfl ⟨fx_an, fx_an, fx_an, fx_an, fx_an, fx_an⟩ d_X12_choices km70_k
-- X12_isIn i i i (-2147483648, 2147483647) (1, 1) (4, 4)
def km71_c : fx_C := ([.inl (-2147483648, 2147483647), .inl (1, 1), .inl (4, 4)], [], [(some (.inl (1, 1)), [.inl (1, 4), .inl (1, 1), .inl (4, 4)], []), (some (.inl (0, 0)), [.inl (-2147483648, 2147483647), .inl (1, 1), .inl (4, 4)], [])], [])
def km71_a : List fx_N := []
def km71_s : List fx_D := []
def km71_x : fx_X := ([], [], [], [], [], [])
set_option maxRecDepth 100000 in
theorem km71_k : fx_chk TM 3 km71_c 3 km71_x t_X12_isIn km71_a km71_s 11 = true := by decide +kernel
set_option maxRecDepth 100000 in
theorem km71 {l : Launch} {E : (Nat → Prop) → State → Prop} {ad : List Nat} {D : va_G} {cy : Nat → ClassId} (h : fx_env E D classes (tys cy) nestW) : fx_Met l yX12_isIn (.code yX12_isIn cX12_isIn 3 (some .boolean) :: wsL_law) ({ frames := 0, cells := 0, slots := 0, locals := 0 }) E (gsM, TM, cy, fun _ => True) ad D classes km71_c :=
  fx_sound (x := km71_x) (tb := t_X12_isIn) (an := km71_a) (sp := km71_s) (rk := 3) 11 h (fun _ _ _ _ _ _ => trivial) (fun _ _ _ _ _ _ => trivial) (ht_tys cy) (by decide) rfl ⟨fx_an, fx_an, fx_an, fx_an, fx_an, fx_an⟩ d_X12_isIn km71_k
-- X12_has i i ('any',) ('any',)
def km72_c : fx_C := ([.inl (0, 4095), .inl (0, 11)], [], [(some (.inl (1, 1)), [.inl (0, 4095), .inl (0, 11)], []), (some (.inl (0, 0)), [.inl (0, 4095), .inl (0, 11)], [])], [])
def km72_a : List fx_N := []
def km72_s : List fx_D := []
def km72_x : fx_X := ([], [], [], [], [], [])
set_option maxRecDepth 100000 in
theorem km72_k : fx_chk TM 2 km72_c 3 km72_x t_X12_has km72_a km72_s 12 = true := by decide +kernel
set_option maxRecDepth 100000 in
theorem km72 {l : Launch} {E : (Nat → Prop) → State → Prop} {ad : List Nat} {D : va_G} {cy : Nat → ClassId} (h : fx_env E D classes (tys cy) nestW) : fx_Met l yX12_has (.code yX12_has cX12_has 2 (some .boolean) :: wsL_law) ({ frames := 0, cells := 0, slots := 0, locals := 0 }) E (gsM, TM, cy, fun _ => True) ad D classes km72_c :=
  fx_sound (x := km72_x) (tb := t_X12_has) (an := km72_a) (sp := km72_s) (rk := 3) 12 h (fun _ _ _ _ _ _ => trivial) (fun _ _ _ _ _ _ => trivial) (ht_tys cy) (by decide) rfl ⟨fx_an, fx_an, fx_an, fx_an, fx_an, fx_an⟩ d_X12_has km72_k
