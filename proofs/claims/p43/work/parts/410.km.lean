-- X12_feed 0 i i i i i
def km0_c : fx_C := ([.inr (.inr 1), .inl (-2147483648, 2147483647), .inl (-2147483648, 2147483647), .inl (-2147483648, 2147483647), .inl (-2147483648, 2147483647), .inl (-2147483648, 2147483647)], [], [(some (.inl (-1, -1)), [.inr (.inr 1), .inl (-2147483648, 2147483647), .inl (-2147483648, 2147483647), .inl (-2147483648, 2147483647), .inl (-2147483648, 2147483647), .inl (-2147483648, 2147483647)], [((0, 2), .inl (1581, 1600))]), (some (.inl (20, 1600)), [.inr (.inr 1), .inl (-2147483648, 2147483647), .inl (-2147483648, 2147483647), .inl (-2147483648, 2147483647), .inl (-2147483648, 2147483647), .inl (-2147483648, 2147483647)], [((0, 2), .inl (20, 1600))])], [(12, 2), (1000, 1)])
def km0_a : List fx_N := [(18, [(0, .inr (.inr 1)), (1, .inl (-2147483648, 2147483647)), (2, .inl (-2147483648, 2147483647)), (3, .inl (-2147483648, 2147483647)), (4, .inl (-2147483648, 2147483647)), (5, .inl (-2147483648, 2147483647)), (6, .inl (0, 20))], [((0, 2), .inl (0, 1580))], [(0, 0), (1, 6), (0, 0)], [(0, 0), (1, 1), (2, 2), (3, 3), (4, 4), (5, 5)])]
def km0_s : List fx_D := []
def km0_x : fx_X := ([], [(7, 12, 0), (271, 12, 2)], [(271, 12, 2, 0)], [], [], [])
set_option maxRecDepth 100000 in
theorem km0_k : fx_chk TM 8 km0_c 0 km0_x t_X12_feed km0_a km0_s 40 = true := by decide +kernel
set_option maxRecDepth 100000 in
theorem km0 {l : Launch} {E : (Nat → Prop) → State → Prop} {ad : List Nat} {D : va_G} {cy : Nat → ClassId} (h : fx_env E D classes (tys cy) nestW) : fx_Met l yX12_feed (.code yX12_feed cX12_feed 8 (some .int) :: wsL_law) ({ frames := 0, cells := 0, slots := 0, locals := 0 }) E (gsM, TM, cy, fun _ => True) ad D classes km0_c :=
  fx_sound (x := km0_x) (tb := t_X12_feed) (an := km0_a) (sp := km0_s) (rk := 0) 40 h (fun _ _ _ _ _ _ => trivial) (fun _ _ _ _ _ _ => trivial) (ht_tys cy) (by decide) rfl ⟨fx_an, (fx_ac fl_X12_7 (fx_ac fl_X12_271 (fx_an))), (fx_ac pl_X12_271 (fx_an)), fx_an, fx_an, fx_an⟩ d_X12_feed km0_k
-- X12_end 0 i
def km1_c : fx_C := ([.inr (.inr 1), .inl (-2147483648, 2147483647)], [], [(some (.inl (-1, -1)), [.inr (.inr 1), .inl (-2147483648, 2147483647)], []), (some (.inl (0, 1600)), [.inr (.inr 1), .inl (0, 1600)], [])], [(12, 2)])
def km1_a : List fx_N := []
def km1_s : List fx_D := []
def km1_x : fx_X := ([], [(271, 12, 2)], [(271, 12, 2, 0)], [], [], [])
set_option maxRecDepth 100000 in
theorem km1_k : fx_chk TM 2 km1_c 0 km1_x t_X12_end km1_a km1_s 13 = true := by decide +kernel
set_option maxRecDepth 100000 in
theorem km1 {l : Launch} {E : (Nat → Prop) → State → Prop} {ad : List Nat} {D : va_G} {cy : Nat → ClassId} (h : fx_env E D classes (tys cy) nestW) : fx_Met l yX12_end (.code yX12_end cX12_end 2 (some .int) :: wsL_law) ({ frames := 0, cells := 0, slots := 0, locals := 0 }) E (gsM, TM, cy, fun _ => True) ad D classes km1_c :=
  fx_sound (x := km1_x) (tb := t_X12_end) (an := km1_a) (sp := km1_s) (rk := 0) 13 h (fun _ _ _ _ _ _ => trivial) (fun _ _ _ _ _ _ => trivial) (ht_tys cy) (by decide) rfl ⟨fx_an, (fx_ac fl_X12_271 (fx_an)), (fx_ac pl_X12_271 (fx_an)), fx_an, fx_an, fx_an⟩ d_X12_end km1_k
-- X12_fault 0 i
def km2_c : fx_C := ([.inr (.inr 1), .inl (-2147483648, 2147483647)], [], [(some (.inl (-2147483648, 2147483647)), [.inr (.inr 1), .inl (0, 1)], []), (some (.inl (-1, -1)), [.inr (.inr 1), .inl (-2147483648, 2147483647)], [])], [])
def km2_a : List fx_N := []
def km2_s : List fx_D := []
def km2_x : fx_X := ([], [(16, 12, 5), (170, 12, 4)], [], [], [], [])
set_option maxRecDepth 100000 in
theorem km2_k : fx_chk TM 2 km2_c 0 km2_x t_X12_fault km2_a km2_s 11 = true := by decide +kernel
set_option maxRecDepth 100000 in
theorem km2 {l : Launch} {E : (Nat → Prop) → State → Prop} {ad : List Nat} {D : va_G} {cy : Nat → ClassId} (h : fx_env E D classes (tys cy) nestW) : fx_Met l yX12_fault (.code yX12_fault cX12_fault 2 (some .int) :: wsL_law) ({ frames := 0, cells := 0, slots := 0, locals := 0 }) E (gsM, TM, cy, fun _ => True) ad D classes km2_c :=
  fx_sound (x := km2_x) (tb := t_X12_fault) (an := km2_a) (sp := km2_s) (rk := 0) 11 h (fun _ _ _ _ _ _ => trivial) (fun _ _ _ _ _ _ => trivial) (ht_tys cy) (by decide) rfl ⟨fx_an, (fx_ac fl_X12_16 (fx_ac fl_X12_170 (fx_an))), fx_an, fx_an, fx_an, fx_an⟩ d_X12_fault km2_k
-- X12_isIn i i i (-2147483648, 2147483647) (0, 0) (-1, 11)
def km3_c : fx_C := ([.inl (-2147483648, 2147483647), .inl (0, 0), .inl (-1, 11)], [], [(some (.inl (1, 1)), [.inl (0, 11), .inl (0, 0), .inl (0, 11)], []), (some (.inl (0, 0)), [.inl (-2147483648, 2147483647), .inl (0, 0), .inl (-1, 11)], [])], [])
def km3_a : List fx_N := []
def km3_s : List fx_D := []
def km3_x : fx_X := ([], [], [], [], [], [])
set_option maxRecDepth 100000 in
theorem km3_k : fx_chk TM 3 km3_c 3 km3_x t_X12_isIn km3_a km3_s 11 = true := by decide +kernel
set_option maxRecDepth 100000 in
theorem km3 {l : Launch} {E : (Nat → Prop) → State → Prop} {ad : List Nat} {D : va_G} {cy : Nat → ClassId} (h : fx_env E D classes (tys cy) nestW) : fx_Met l yX12_isIn (.code yX12_isIn cX12_isIn 3 (some .boolean) :: wsL_law) ({ frames := 0, cells := 0, slots := 0, locals := 0 }) E (gsM, TM, cy, fun _ => True) ad D classes km3_c :=
  fx_sound (x := km3_x) (tb := t_X12_isIn) (an := km3_a) (sp := km3_s) (rk := 3) 11 h (fun _ _ _ _ _ _ => trivial) (fun _ _ _ _ _ _ => trivial) (ht_tys cy) (by decide) rfl ⟨fx_an, fx_an, fx_an, fx_an, fx_an, fx_an⟩ d_X12_isIn km3_k
-- X12_isPlace 0 i
def km4_c : fx_C := ([.inr (.inr 1), .inl (-2147483648, 2147483647)], [], [(some (.inl (0, 0)), [.inr (.inr 1), .inl (-2147483648, 2147483647)], []), (some (.inl (1, 1)), [.inr (.inr 1), .inl (0, 11)], [((0, 41), .inr (.inr 27)), ((2, 12), .inl (1, 12))])], [])
def km4_a : List fx_N := []
def km4_s : List fx_D := []
def km4_x : fx_X := ([], [(92, 12, 41)], [], [], [], [(11, 359, 1000, km3_c)])
set_option maxRecDepth 100000 in
theorem km4_k : fx_chk TM 2 km4_c 3 km4_x t_X12_isPlace km4_a km4_s 12 = true := by decide +kernel
set_option maxRecDepth 100000 in
theorem km4 {l : Launch} {E : (Nat → Prop) → State → Prop} {ad : List Nat} {D : va_G} {cy : Nat → ClassId} (h : fx_env E D classes (tys cy) nestW) : fx_Met l yX12_isPlace (.code yX12_isPlace cX12_isPlace 2 (some .boolean) :: wsL_law) ({ frames := 1, cells := 0, slots := 0, locals := 22 }) E (gsM, TM, cy, fun _ => True) ad D classes km4_c :=
  fx_sound (x := km4_x) (tb := t_X12_isPlace) (an := km4_a) (sp := km4_s) (rk := 3) 12 h (fun _ _ _ _ _ _ => trivial) (fun _ _ _ _ _ _ => trivial) (ht_tys cy) (by decide) rfl ⟨fx_an, (fx_ac fl_X12_92 (fx_an)), fx_an, fx_an, fx_an, (fx_ac (ev_S (km3 h) ⟨by decide, by decide⟩ iS_X12_isIn g_X12_359) (fx_an))⟩ d_X12_isPlace km4_k
-- X12_word 0 i
def km5_c : fx_C := ([.inr (.inr 1), .inl (-2147483648, 2147483647)], [], [(some (.inl (0, 8)), [.inr (.inr 1), .inl (0, 11)], [((0, 41), .inr (.inr 27)), ((2, 12), .inl (1, 12))]), (some (.inl (-1, -1)), [.inr (.inr 1), .inl (-2147483648, 2147483647)], [])], [])
def km5_a : List fx_N := []
def km5_s : List fx_D := []
def km5_x : fx_X := ([], [(92, 12, 41)], [], [], [], [(2, 393, 12, km4_c)])
set_option maxRecDepth 100000 in
theorem km5_k : fx_chk TM 2 km5_c 0 km5_x t_X12_word km5_a km5_s 14 = true := by decide +kernel
set_option maxRecDepth 100000 in
theorem km5 {l : Launch} {E : (Nat → Prop) → State → Prop} {ad : List Nat} {D : va_G} {cy : Nat → ClassId} (h : fx_env E D classes (tys cy) nestW) : fx_Met l yX12_word (.code yX12_word cX12_word 2 (some .int) :: wsL_law) ({ frames := 2, cells := 0, slots := 0, locals := 43 }) E (gsM, TM, cy, fun _ => True) ad D classes km5_c :=
  fx_sound (x := km5_x) (tb := t_X12_word) (an := km5_a) (sp := km5_s) (rk := 0) 14 h (fun _ _ _ _ _ _ => trivial) (fun _ _ _ _ _ _ => trivial) (ht_tys cy) (by decide) rfl ⟨fx_an, (fx_ac fl_X12_92 (fx_an)), fx_an, fx_an, fx_an, (fx_ac (ev_V (km4 h) (by decide) rfl ⟨by decide, by decide⟩ iV_X12_isPlace g_X12_393) (fx_an))⟩ d_X12_word km5_k
-- X12_isIn i i i (-2147483648, 2147483647) (0, 0) (-1, 4)
def km6_c : fx_C := ([.inl (-2147483648, 2147483647), .inl (0, 0), .inl (-1, 4)], [], [(some (.inl (1, 1)), [.inl (0, 4), .inl (0, 0), .inl (0, 4)], []), (some (.inl (0, 0)), [.inl (-2147483648, 2147483647), .inl (0, 0), .inl (-1, 4)], [])], [])
def km6_a : List fx_N := []
def km6_s : List fx_D := []
def km6_x : fx_X := ([], [], [], [], [], [])
set_option maxRecDepth 100000 in
theorem km6_k : fx_chk TM 3 km6_c 3 km6_x t_X12_isIn km6_a km6_s 11 = true := by decide +kernel
set_option maxRecDepth 100000 in
theorem km6 {l : Launch} {E : (Nat → Prop) → State → Prop} {ad : List Nat} {D : va_G} {cy : Nat → ClassId} (h : fx_env E D classes (tys cy) nestW) : fx_Met l yX12_isIn (.code yX12_isIn cX12_isIn 3 (some .boolean) :: wsL_law) ({ frames := 0, cells := 0, slots := 0, locals := 0 }) E (gsM, TM, cy, fun _ => True) ad D classes km6_c :=
  fx_sound (x := km6_x) (tb := t_X12_isIn) (an := km6_a) (sp := km6_s) (rk := 3) 11 h (fun _ _ _ _ _ _ => trivial) (fun _ _ _ _ _ _ => trivial) (ht_tys cy) (by decide) rfl ⟨fx_an, fx_an, fx_an, fx_an, fx_an, fx_an⟩ d_X12_isIn km6_k
-- X12_isSlip 0 i
def km7_c : fx_C := ([.inr (.inr 1), .inl (-2147483648, 2147483647)], [], [(some (.inl (0, 0)), [.inr (.inr 1), .inl (-2147483648, 2147483647)], []), (some (.inl (1, 1)), [.inr (.inr 1), .inl (0, 4)], [])], [])
def km7_a : List fx_N := []
def km7_s : List fx_D := []
def km7_x : fx_X := ([], [(27, 12, 13), (274, 12, 34)], [], [], [], [(13, 359, 1000, km6_c)])
set_option maxRecDepth 100000 in
theorem km7_k : fx_chk TM 2 km7_c 3 km7_x t_X12_isSlip km7_a km7_s 13 = true := by decide +kernel
set_option maxRecDepth 100000 in
theorem km7 {l : Launch} {E : (Nat → Prop) → State → Prop} {ad : List Nat} {D : va_G} {cy : Nat → ClassId} (h : fx_env E D classes (tys cy) nestW) : fx_Met l yX12_isSlip (.code yX12_isSlip cX12_isSlip 2 (some .boolean) :: wsL_law) ({ frames := 1, cells := 0, slots := 0, locals := 22 }) E (gsM, TM, cy, fun _ => True) ad D classes km7_c :=
  fx_sound (x := km7_x) (tb := t_X12_isSlip) (an := km7_a) (sp := km7_s) (rk := 3) 13 h (fun _ _ _ _ _ _ => trivial) (fun _ _ _ _ _ _ => trivial) (ht_tys cy) (by decide) rfl ⟨fx_an, (fx_ac fl_X12_27 (fx_ac fl_X12_274 (fx_an))), fx_an, fx_an, fx_an, (fx_ac (ev_S (km6 h) ⟨by decide, by decide⟩ iS_X12_isIn g_X12_359) (fx_an))⟩ d_X12_isSlip km7_k
-- X12_longOf 0 i +
def km8_c : fx_C := ([.inr (.inr 1), .inl (0, 4)], [], [(some (.inl (0, 8)), [.inr (.inr 1), .inl (0, 4)], [])], [])
def km8_a : List fx_N := []
def km8_s : List fx_D := []
def km8_x : fx_X := ([], [(51, 12, 21), (274, 12, 34)], [], [], [], [])
set_option maxRecDepth 100000 in
theorem km8_k : fx_chk TM 2 km8_c 0 km8_x t_X12_longOf km8_a km8_s 15 = true := by decide +kernel
set_option maxRecDepth 100000 in
theorem km8 {l : Launch} {E : (Nat → Prop) → State → Prop} {ad : List Nat} {D : va_G} {cy : Nat → ClassId} (h : fx_env E D classes (tys cy) nestW) : fx_Met l yX12_longOf (.code yX12_longOf cX12_longOf 2 (some .int) :: wsL_law) ({ frames := 0, cells := 0, slots := 0, locals := 0 }) E (gsM, TM, cy, fun _ => True) ad D classes km8_c :=
  fx_sound (x := km8_x) (tb := t_X12_longOf) (an := km8_a) (sp := km8_s) (rk := 0) 15 h (fun _ _ _ _ _ _ => trivial) (fun _ _ _ _ _ _ => trivial) (ht_tys cy) (by decide) rfl ⟨fx_an, (fx_ac fl_X12_51 (fx_ac fl_X12_274 (fx_an))), fx_an, fx_an, fx_an, fx_an⟩ d_X12_longOf km8_k
-- X12_isIn i i i (-2147483648, 2147483647) (0, 0) (-1, 7)
def km9_c : fx_C := ([.inl (-2147483648, 2147483647), .inl (0, 0), .inl (-1, 7)], [], [(some (.inl (1, 1)), [.inl (0, 7), .inl (0, 0), .inl (0, 7)], []), (some (.inl (0, 0)), [.inl (-2147483648, 2147483647), .inl (0, 0), .inl (-1, 7)], [])], [])
def km9_a : List fx_N := []
def km9_s : List fx_D := []
def km9_x : fx_X := ([], [], [], [], [], [])
set_option maxRecDepth 100000 in
theorem km9_k : fx_chk TM 3 km9_c 3 km9_x t_X12_isIn km9_a km9_s 11 = true := by decide +kernel
set_option maxRecDepth 100000 in
theorem km9 {l : Launch} {E : (Nat → Prop) → State → Prop} {ad : List Nat} {D : va_G} {cy : Nat → ClassId} (h : fx_env E D classes (tys cy) nestW) : fx_Met l yX12_isIn (.code yX12_isIn cX12_isIn 3 (some .boolean) :: wsL_law) ({ frames := 0, cells := 0, slots := 0, locals := 0 }) E (gsM, TM, cy, fun _ => True) ad D classes km9_c :=
  fx_sound (x := km9_x) (tb := t_X12_isIn) (an := km9_a) (sp := km9_s) (rk := 3) 11 h (fun _ _ _ _ _ _ => trivial) (fun _ _ _ _ _ _ => trivial) (ht_tys cy) (by decide) rfl ⟨fx_an, fx_an, fx_an, fx_an, fx_an, fx_an⟩ d_X12_isIn km9_k
-- X12_wordOf 0 i i +
def km10_c : fx_C := ([.inr (.inr 1), .inl (0, 4), .inl (0, 7)], [], [(some (.inl (0, 8)), [.inr (.inr 1), .inl (0, 4), .inl (0, 7)], [])], [])
def km10_a : List fx_N := []
def km10_s : List fx_D := []
def km10_x : fx_X := ([], [(54, 12, 22), (274, 12, 34)], [], [], [], [])
set_option maxRecDepth 100000 in
theorem km10_k : fx_chk TM 3 km10_c 0 km10_x t_X12_wordOf km10_a km10_s 19 = true := by decide +kernel
set_option maxRecDepth 100000 in
theorem km10 {l : Launch} {E : (Nat → Prop) → State → Prop} {ad : List Nat} {D : va_G} {cy : Nat → ClassId} (h : fx_env E D classes (tys cy) nestW) : fx_Met l yX12_wordOf (.code yX12_wordOf cX12_wordOf 3 (some .int) :: wsL_law) ({ frames := 0, cells := 0, slots := 0, locals := 0 }) E (gsM, TM, cy, fun _ => True) ad D classes km10_c :=
  fx_sound (x := km10_x) (tb := t_X12_wordOf) (an := km10_a) (sp := km10_s) (rk := 0) 19 h (fun _ _ _ _ _ _ => trivial) (fun _ _ _ _ _ _ => trivial) (ht_tys cy) (by decide) rfl ⟨fx_an, (fx_ac fl_X12_54 (fx_ac fl_X12_274 (fx_an))), fx_an, fx_an, fx_an, fx_an⟩ d_X12_wordOf km10_k
-- X12_slip 0 i i
def km11_c : fx_C := ([.inr (.inr 1), .inl (-2147483648, 2147483647), .inl (-2147483648, 2147483647)], [], [(some (.inl (-1, -1)), [.inr (.inr 1), .inl (-2147483648, 2147483647), .inl (-2147483648, 2147483647)], []), (some (.inl (0, 8)), [.inr (.inr 1), .inl (0, 4), .inl (0, 7)], [])], [])
def km11_a : List fx_N := []
def km11_s : List fx_D := []
def km11_x : fx_X := ([], [], [], [], [], [(2, 363, 12, km7_c), (12, 381, 12, km8_c), (17, 359, 1000, km9_c), (26, 387, 12, km10_c)])
set_option maxRecDepth 100000 in
theorem km11_k : fx_chk TM 3 km11_c 0 km11_x t_X12_slip km11_a km11_s 21 = true := by decide +kernel
set_option maxRecDepth 100000 in
theorem km11 {l : Launch} {E : (Nat → Prop) → State → Prop} {ad : List Nat} {D : va_G} {cy : Nat → ClassId} (h : fx_env E D classes (tys cy) nestW) : fx_Met l yX12_slip (.code yX12_slip cX12_slip 3 (some .int) :: wsL_law) ({ frames := 2, cells := 0, slots := 0, locals := 43 }) E (gsM, TM, cy, fun _ => True) ad D classes km11_c :=
  fx_sound (x := km11_x) (tb := t_X12_slip) (an := km11_a) (sp := km11_s) (rk := 0) 21 h (fun _ _ _ _ _ _ => trivial) (fun _ _ _ _ _ _ => trivial) (ht_tys cy) (by decide) rfl ⟨fx_an, fx_an, fx_an, fx_an, fx_an, (fx_ac (ev_V (km7 h) (by decide) rfl ⟨by decide, by decide⟩ iV_X12_isSlip g_X12_363) (fx_ac (ev_V (km8 h) (by decide) rfl ⟨by decide, by decide⟩ iV_X12_longOf g_X12_381) (fx_ac (ev_S (km9 h) ⟨by decide, by decide⟩ iS_X12_isIn g_X12_359) (fx_ac (ev_V (km10 h) (by decide) rfl ⟨by decide, by decide⟩ iV_X12_wordOf g_X12_387) (fx_an)))))⟩ d_X12_slip km11_k
-- X12_isSlipOrRow 0 i
def km12_c : fx_C := ([.inr (.inr 1), .inl (-2147483648, 2147483647)], [], [(some (.inl (1, 1)), [.inr (.inr 1), .inl (0, 4)], []), (some (.inl (0, 0)), [.inr (.inr 1), .inl (-2147483648, 2147483647)], []), (some (.inl (1, 1)), [.inr (.inr 1), .inl (-1, -1)], [])], [])
def km12_a : List fx_N := []
def km12_s : List fx_D := []
def km12_x : fx_X := ([], [], [], [], [], [(7, 363, 12, km7_c)])
set_option maxRecDepth 100000 in
theorem km12_k : fx_chk TM 2 km12_c 3 km12_x t_X12_isSlipOrRow km12_a km12_s 12 = true := by decide +kernel
set_option maxRecDepth 100000 in
theorem km12 {l : Launch} {E : (Nat → Prop) → State → Prop} {ad : List Nat} {D : va_G} {cy : Nat → ClassId} (h : fx_env E D classes (tys cy) nestW) : fx_Met l yX12_isSlipOrRow (.code yX12_isSlipOrRow cX12_isSlipOrRow 2 (some .boolean) :: wsL_law) ({ frames := 2, cells := 0, slots := 0, locals := 43 }) E (gsM, TM, cy, fun _ => True) ad D classes km12_c :=
  fx_sound (x := km12_x) (tb := t_X12_isSlipOrRow) (an := km12_a) (sp := km12_s) (rk := 3) 12 h (fun _ _ _ _ _ _ => trivial) (fun _ _ _ _ _ _ => trivial) (ht_tys cy) (by decide) rfl ⟨fx_an, fx_an, fx_an, fx_an, fx_an, (fx_ac (ev_V (km7 h) (by decide) rfl ⟨by decide, by decide⟩ iV_X12_isSlip g_X12_363) (fx_an))⟩ d_X12_isSlipOrRow km12_k
-- X12_longOf 0 i -
def km13_c : fx_C := ([.inr (.inr 1), .inl (-1, -1)], [], [(some (.inl (0, 12)), [.inr (.inr 1), .inl (-1, -1)], [])], [])
def km13_a : List fx_N := []
def km13_s : List fx_D := []
def km13_x : fx_X := ([], [(92, 12, 41)], [], [], [], [])
set_option maxRecDepth 100000 in
theorem km13_k : fx_chk TM 2 km13_c 0 km13_x t_X12_longOf km13_a km13_s 11 = true := by decide +kernel
set_option maxRecDepth 100000 in
theorem km13 {l : Launch} {E : (Nat → Prop) → State → Prop} {ad : List Nat} {D : va_G} {cy : Nat → ClassId} (h : fx_env E D classes (tys cy) nestW) : fx_Met l yX12_longOf (.code yX12_longOf cX12_longOf 2 (some .int) :: wsL_law) ({ frames := 0, cells := 0, slots := 0, locals := 0 }) E (gsM, TM, cy, fun _ => True) ad D classes km13_c :=
  fx_sound (x := km13_x) (tb := t_X12_longOf) (an := km13_a) (sp := km13_s) (rk := 0) 11 h (fun _ _ _ _ _ _ => trivial) (fun _ _ _ _ _ _ => trivial) (ht_tys cy) (by decide) rfl ⟨fx_an, (fx_ac fl_X12_92 (fx_an)), fx_an, fx_an, fx_an, fx_an⟩ d_X12_longOf km13_k
-- X12_size 0 i
def km14_c : fx_C := ([.inr (.inr 1), .inl (-2147483648, 2147483647)], [], [(some (.inl (0, 12)), [.inr (.inr 1), .inl (-1, 4)], []), (some (.inl (-1, -1)), [.inr (.inr 1), .inl (-2147483648, 2147483647)], [])], [])
def km14_a : List fx_N := []
def km14_s : List fx_D := []
def km14_x : fx_X := ([], [], [], [], [], [(2, 396, 12, km12_c), (10, 381, 12, km13_c), (10, 381, 12, km8_c)])
set_option maxRecDepth 100000 in
theorem km14_k : fx_chk TM 2 km14_c 0 km14_x t_X12_size km14_a km14_s 11 = true := by decide +kernel
set_option maxRecDepth 100000 in
theorem km14 {l : Launch} {E : (Nat → Prop) → State → Prop} {ad : List Nat} {D : va_G} {cy : Nat → ClassId} (h : fx_env E D classes (tys cy) nestW) : fx_Met l yX12_size (.code yX12_size cX12_size 2 (some .int) :: wsL_law) ({ frames := 3, cells := 0, slots := 0, locals := 64 }) E (gsM, TM, cy, fun _ => True) ad D classes km14_c :=
  fx_sound (x := km14_x) (tb := t_X12_size) (an := km14_a) (sp := km14_s) (rk := 0) 11 h (fun _ _ _ _ _ _ => trivial) (fun _ _ _ _ _ _ => trivial) (ht_tys cy) (by decide) rfl ⟨fx_an, fx_an, fx_an, fx_an, fx_an, (fx_ac (ev_V (km12 h) (by decide) rfl ⟨by decide, by decide⟩ iV_X12_isSlipOrRow g_X12_396) (fx_ac (ev_V (km13 h) (by decide) rfl ⟨by decide, by decide⟩ iV_X12_longOf g_X12_381) (fx_ac (ev_V (km8 h) (by decide) rfl ⟨by decide, by decide⟩ iV_X12_longOf g_X12_381) (fx_an))))⟩ d_X12_size km14_k
-- X12_isIn i i i (-2147483648, 2147483647) (0, 0) (-1, 8)
def km15_c : fx_C := ([.inl (-2147483648, 2147483647), .inl (0, 0), .inl (-1, 8)], [], [(some (.inl (1, 1)), [.inl (0, 8), .inl (0, 0), .inl (0, 8)], []), (some (.inl (0, 0)), [.inl (-2147483648, 2147483647), .inl (0, 0), .inl (-1, 8)], [])], [])
def km15_a : List fx_N := []
def km15_s : List fx_D := []
def km15_x : fx_X := ([], [], [], [], [], [])
set_option maxRecDepth 100000 in
theorem km15_k : fx_chk TM 3 km15_c 3 km15_x t_X12_isIn km15_a km15_s 11 = true := by decide +kernel
set_option maxRecDepth 100000 in
theorem km15 {l : Launch} {E : (Nat → Prop) → State → Prop} {ad : List Nat} {D : va_G} {cy : Nat → ClassId} (h : fx_env E D classes (tys cy) nestW) : fx_Met l yX12_isIn (.code yX12_isIn cX12_isIn 3 (some .boolean) :: wsL_law) ({ frames := 0, cells := 0, slots := 0, locals := 0 }) E (gsM, TM, cy, fun _ => True) ad D classes km15_c :=
  fx_sound (x := km15_x) (tb := t_X12_isIn) (an := km15_a) (sp := km15_s) (rk := 3) 11 h (fun _ _ _ _ _ _ => trivial) (fun _ _ _ _ _ _ => trivial) (ht_tys cy) (by decide) rfl ⟨fx_an, fx_an, fx_an, fx_an, fx_an, fx_an⟩ d_X12_isIn km15_k
-- X12_isSaying 0 i
def km16_c : fx_C := ([.inr (.inr 1), .inl (-2147483648, 2147483647)], [], [(some (.inl (0, 0)), [.inr (.inr 1), .inl (-2147483648, 2147483647)], []), (some (.inl (1, 1)), [.inr (.inr 1), .inl (0, 8)], [])], [])
def km16_a : List fx_N := []
def km16_s : List fx_D := []
def km16_x : fx_X := ([], [(20, 12, 11), (274, 12, 34)], [], [], [], [(13, 359, 1000, km15_c)])
set_option maxRecDepth 100000 in
theorem km16_k : fx_chk TM 2 km16_c 3 km16_x t_X12_isSaying km16_a km16_s 13 = true := by decide +kernel
set_option maxRecDepth 100000 in
theorem km16 {l : Launch} {E : (Nat → Prop) → State → Prop} {ad : List Nat} {D : va_G} {cy : Nat → ClassId} (h : fx_env E D classes (tys cy) nestW) : fx_Met l yX12_isSaying (.code yX12_isSaying cX12_isSaying 2 (some .boolean) :: wsL_law) ({ frames := 1, cells := 0, slots := 0, locals := 22 }) E (gsM, TM, cy, fun _ => True) ad D classes km16_c :=
  fx_sound (x := km16_x) (tb := t_X12_isSaying) (an := km16_a) (sp := km16_s) (rk := 3) 13 h (fun _ _ _ _ _ _ => trivial) (fun _ _ _ _ _ _ => trivial) (ht_tys cy) (by decide) rfl ⟨fx_an, (fx_ac fl_X12_20 (fx_ac fl_X12_274 (fx_an))), fx_an, fx_an, fx_an, (fx_ac (ev_S (km15 h) ⟨by decide, by decide⟩ iS_X12_isIn g_X12_359) (fx_an))⟩ d_X12_isSaying km16_k
-- X12_worth 0 i
def km17_c : fx_C := ([.inr (.inr 1), .inl (-2147483648, 2147483647)], [], [(some (.inl (-2147483648, 2147483647)), [.inr (.inr 1), .inl (0, 8)], []), (some (.inl (-1, -1)), [.inr (.inr 1), .inl (-2147483648, 2147483647)], [])], [])
def km17_a : List fx_N := []
def km17_s : List fx_D := []
def km17_x : fx_X := ([], [(39, 12, 17), (274, 12, 34)], [], [], [], [(2, 399, 12, km16_c)])
set_option maxRecDepth 100000 in
theorem km17_k : fx_chk TM 2 km17_c 0 km17_x t_X12_worth km17_a km17_s 17 = true := by decide +kernel
set_option maxRecDepth 100000 in
theorem km17 {l : Launch} {E : (Nat → Prop) → State → Prop} {ad : List Nat} {D : va_G} {cy : Nat → ClassId} (h : fx_env E D classes (tys cy) nestW) : fx_Met l yX12_worth (.code yX12_worth cX12_worth 2 (some .int) :: wsL_law) ({ frames := 2, cells := 0, slots := 0, locals := 43 }) E (gsM, TM, cy, fun _ => True) ad D classes km17_c :=
  fx_sound (x := km17_x) (tb := t_X12_worth) (an := km17_a) (sp := km17_s) (rk := 0) 17 h (fun _ _ _ _ _ _ => trivial) (fun _ _ _ _ _ _ => trivial) (ht_tys cy) (by decide) rfl ⟨fx_an, (fx_ac fl_X12_39 (fx_ac fl_X12_274 (fx_an))), fx_an, fx_an, fx_an, (fx_ac (ev_V (km16 h) (by decide) rfl ⟨by decide, by decide⟩ iV_X12_isSaying g_X12_399) (fx_an))⟩ d_X12_worth km17_k
-- X12_besideTo 0 i i
def km18_c : fx_C := ([.inr (.inr 1), .inl (0, 8), .inl (0, 8)], [], [(some (.inl (-2147483648, 2147483647)), [.inr (.inr 1), .inl (0, 8), .inl (0, 8)], [])], [])
def km18_a : List fx_N := []
def km18_s : List fx_D := []
def km18_x : fx_X := ([], [(42, 12, 18), (274, 12, 34)], [], [], [], [])
set_option maxRecDepth 100000 in
theorem km18_k : fx_chk TM 3 km18_c 0 km18_x t_X12_besideTo km18_a km18_s 16 = true := by decide +kernel
set_option maxRecDepth 100000 in
theorem km18 {l : Launch} {E : (Nat → Prop) → State → Prop} {ad : List Nat} {D : va_G} {cy : Nat → ClassId} (h : fx_env E D classes (tys cy) nestW) : fx_Met l yX12_besideTo (.code yX12_besideTo cX12_besideTo 3 (some .int) :: wsL_law) ({ frames := 0, cells := 0, slots := 0, locals := 0 }) E (gsM, TM, cy, fun _ => True) ad D classes km18_c :=
  fx_sound (x := km18_x) (tb := t_X12_besideTo) (an := km18_a) (sp := km18_s) (rk := 0) 16 h (fun _ _ _ _ _ _ => trivial) (fun _ _ _ _ _ _ => trivial) (ht_tys cy) (by decide) rfl ⟨fx_an, (fx_ac fl_X12_42 (fx_ac fl_X12_274 (fx_an))), fx_an, fx_an, fx_an, fx_an⟩ d_X12_besideTo km18_k
-- X12_beside 0 i i
def km19_c : fx_C := ([.inr (.inr 1), .inl (-2147483648, 2147483647), .inl (-2147483648, 2147483647)], [], [(some (.inl (-2147483648, 2147483647)), [.inr (.inr 1), .inl (0, 8), .inl (0, 8)], []), (some (.inl (-1000000, -1000000)), [.inr (.inr 1), .inl (-2147483648, 2147483647), .inl (-2147483648, 2147483647)], [])], [])
def km19_a : List fx_N := []
def km19_s : List fx_D := []
def km19_x : fx_X := ([], [], [], [(402, -1000000)], [], [(2, 399, 12, km16_c), (10, 399, 12, km16_c), (19, 350, 12, km18_c)])
set_option maxRecDepth 100000 in
theorem km19_k : fx_chk TM 3 km19_c 0 km19_x t_X12_beside km19_a km19_s 16 = true := by decide +kernel
set_option maxRecDepth 100000 in
theorem km19 {l : Launch} {E : (Nat → Prop) → State → Prop} {ad : List Nat} {D : va_G} {cy : Nat → ClassId} (h : fx_env E D classes (tys cy) nestW) : fx_Met l yX12_beside (.code yX12_beside cX12_beside 3 (some .int) :: wsL_law) ({ frames := 2, cells := 0, slots := 0, locals := 43 }) E (gsM, TM, cy, fun _ => True) ad D classes km19_c :=
  fx_sound (x := km19_x) (tb := t_X12_beside) (an := km19_a) (sp := km19_s) (rk := 0) 16 h (fun _ _ _ _ _ _ => trivial) (fun _ _ _ _ _ _ => trivial) (ht_tys cy) (by decide) rfl ⟨fx_an, fx_an, fx_an, (fx_ac kc_X12_402 (fx_an)), fx_an, (fx_ac (ev_V (km16 h) (by decide) rfl ⟨by decide, by decide⟩ iV_X12_isSaying g_X12_399) (fx_ac (ev_V (km16 h) (by decide) rfl ⟨by decide, by decide⟩ iV_X12_isSaying g_X12_399) (fx_ac (ev_V (km18 h) (by decide) rfl ⟨by decide, by decide⟩ iV_X12_besideTo g_X12_350) (fx_an))))⟩ d_X12_beside km19_k
-- X12_wordOf 0 i i -
def km20_c : fx_C := ([.inr (.inr 1), .inl (-1, -1), .inl (0, 11)], [], [(some (.inl (0, 8)), [.inr (.inr 1), .inl (-1, -1), .inl (0, 11)], [])], [])
def km20_a : List fx_N := []
def km20_s : List fx_D := []
def km20_x : fx_X := ([], [(92, 12, 41)], [], [], [], [])
set_option maxRecDepth 100000 in
theorem km20_k : fx_chk TM 3 km20_c 0 km20_x t_X12_wordOf km20_a km20_s 13 = true := by decide +kernel
set_option maxRecDepth 100000 in
theorem km20 {l : Launch} {E : (Nat → Prop) → State → Prop} {ad : List Nat} {D : va_G} {cy : Nat → ClassId} (h : fx_env E D classes (tys cy) nestW) : fx_Met l yX12_wordOf (.code yX12_wordOf cX12_wordOf 3 (some .int) :: wsL_law) ({ frames := 0, cells := 0, slots := 0, locals := 0 }) E (gsM, TM, cy, fun _ => True) ad D classes km20_c :=
  fx_sound (x := km20_x) (tb := t_X12_wordOf) (an := km20_a) (sp := km20_s) (rk := 0) 13 h (fun _ _ _ _ _ _ => trivial) (fun _ _ _ _ _ _ => trivial) (ht_tys cy) (by decide) rfl ⟨fx_an, (fx_ac fl_X12_92 (fx_an)), fx_an, fx_an, fx_an, fx_an⟩ d_X12_wordOf km20_k
-- X12_layOne 0 i -
def km21_c : fx_C := ([.inr (.inr 1), .inl (-1, -1)], [], [(none, [.inr (.inr 1), .inl (-1, -1)], [])], [(12, 45), (1000, 27)])
def km21_a : List fx_N := [(11, [(0, .inr (.inr 1)), (1, .inl (-1, -1)), (2, .inl (0, 12))], [], [(0, 0), (1, 2), (0, 0)], [(0, 0), (1, 1)])]
def km21_s : List fx_D := []
def km21_x : fx_X := ([], [(95, 12, 42), (384, 12, 45)], [(384, 12, 45, 0)], [], [], [(3, 381, 12, km13_c), (27, 387, 12, km20_c)])
set_option maxRecDepth 100000 in
theorem km21_k : fx_chk TM 3 km21_c 9 km21_x t_X12_layOne km21_a km21_s 17 = true := by decide +kernel
set_option maxRecDepth 100000 in
theorem km21 {l : Launch} {E : (Nat → Prop) → State → Prop} {ad : List Nat} {D : va_G} {cy : Nat → ClassId} (h : fx_env E D classes (tys cy) nestW) : fx_Met l yX12_layOne (.code yX12_layOne cX12_layOne 3 none :: wsL_law) ({ frames := 1, cells := 0, slots := 0, locals := 22 }) E (gsM, TM, cy, fun _ => True) ad D classes km21_c :=
  fx_sound (x := km21_x) (tb := t_X12_layOne) (an := km21_a) (sp := km21_s) (rk := 9) 17 h (fun _ _ _ _ _ _ => trivial) (fun _ _ _ _ _ _ => trivial) (ht_tys cy) (by decide) rfl ⟨fx_an, (fx_ac fl_X12_95 (fx_ac fl_X12_384 (fx_an))), (fx_ac pl_X12_384 (fx_an)), fx_an, fx_an, (fx_ac (ev_V (km13 h) (by decide) rfl ⟨by decide, by decide⟩ iV_X12_longOf g_X12_381) (fx_ac (ev_V (km20 h) (by decide) rfl ⟨by decide, by decide⟩ iV_X12_wordOf g_X12_387) (fx_an)))⟩ d_X12_layOne km21_k
-- X12_senseOf 0 27 i
def km22_c : fx_C := ([.inr (.inr 1), .inr (.inr 28), .inl (0, 12)], [], [(some (.inl (-2147483648, 2147483647)), [.inr (.inr 1), .inr (.inr 28), .inl (0, 12)], [])], [])
def km22_a : List fx_N := [(5, [(0, .inr (.inr 1)), (1, .inr (.inr 28)), (2, .inl (0, 12)), (3, .inl (-2147483648, 2147483647)), (4, .inl (1, 12))], [], [(0, 0), (1, 4), (0, 0)], [(0, 0), (1, 1), (2, 2)])]
def km22_s : List fx_D := []
def km22_x : fx_X := ([], [], [], [], [], [(23, 350, 12, km18_c)])
set_option maxRecDepth 100000 in
theorem km22_k : fx_chk TM 5 km22_c 0 km22_x t_X12_senseOf km22_a km22_s 21 = true := by decide +kernel
set_option maxRecDepth 100000 in
theorem km22 {l : Launch} {E : (Nat → Prop) → State → Prop} {ad : List Nat} {D : va_G} {cy : Nat → ClassId} (h : fx_env E D classes (tys cy) nestW) : fx_Met l yX12_senseOf (.code yX12_senseOf cX12_senseOf 5 (some .int) :: wsL_law) ({ frames := 1, cells := 0, slots := 0, locals := 22 }) E (gsM, TM, cy, fun _ => True) ad D classes km22_c :=
  fx_sound (x := km22_x) (tb := t_X12_senseOf) (an := km22_a) (sp := km22_s) (rk := 0) 21 h (fun _ _ _ _ _ _ => trivial) (fun _ _ _ _ _ _ => trivial) (ht_tys cy) (by decide) rfl ⟨fx_an, fx_an, fx_an, fx_an, fx_an, (fx_ac (ev_V (km18 h) (by decide) rfl ⟨by decide, by decide⟩ iV_X12_besideTo g_X12_350) (fx_an))⟩ d_X12_senseOf km22_k
-- X12_layOne 0 i +
def km23_c : fx_C := ([.inr (.inr 1), .inl (0, 4)], [], [(none, [.inr (.inr 1), .inl (0, 4)], [((0, 45), .inl (0, 8))])], [(12, 45), (1000, 27)])
def km23_a : List fx_N := [(11, [(0, .inr (.inr 1)), (1, .inl (0, 4)), (2, .inl (0, 8))], [((0, 45), .inl (0, 8))], [(0, 0), (1, 2), (0, 0)], [(0, 0), (1, 1)])]
def km23_s : List fx_D := []
def km23_x : fx_X := ([], [(95, 12, 42), (384, 12, 45)], [(384, 12, 45, 0)], [], [], [(3, 381, 12, km8_c), (27, 387, 12, km10_c)])
set_option maxRecDepth 100000 in
theorem km23_k : fx_chk TM 3 km23_c 9 km23_x t_X12_layOne km23_a km23_s 17 = true := by decide +kernel
set_option maxRecDepth 100000 in
theorem km23 {l : Launch} {E : (Nat → Prop) → State → Prop} {ad : List Nat} {D : va_G} {cy : Nat → ClassId} (h : fx_env E D classes (tys cy) nestW) : fx_Met l yX12_layOne (.code yX12_layOne cX12_layOne 3 none :: wsL_law) ({ frames := 1, cells := 0, slots := 0, locals := 22 }) E (gsM, TM, cy, fun _ => True) ad D classes km23_c :=
  fx_sound (x := km23_x) (tb := t_X12_layOne) (an := km23_a) (sp := km23_s) (rk := 9) 17 h (fun _ _ _ _ _ _ => trivial) (fun _ _ _ _ _ _ => trivial) (ht_tys cy) (by decide) rfl ⟨fx_an, (fx_ac fl_X12_95 (fx_ac fl_X12_384 (fx_an))), (fx_ac pl_X12_384 (fx_an)), fx_an, fx_an, (fx_ac (ev_V (km8 h) (by decide) rfl ⟨by decide, by decide⟩ iV_X12_longOf g_X12_381) (fx_ac (ev_V (km10 h) (by decide) rfl ⟨by decide, by decide⟩ iV_X12_wordOf g_X12_387) (fx_an)))⟩ d_X12_layOne km23_k
-- X12_sense 0 i
def km24_c : fx_C := ([.inr (.inr 1), .inl (-2147483648, 2147483647)], [], [(some (.inl (-2147483648, 2147483647)), [.inr (.inr 1), .inl (-1, 4)], []), (some (.inl (-1000000, -1000000)), [.inr (.inr 1), .inl (-2147483648, 2147483647)], [])], [(12, 45), (1000, 27)])
def km24_a : List fx_N := []
def km24_s : List fx_D := []
def km24_x : fx_X := ([], [(95, 12, 42), (384, 12, 45)], [], [(402, -1000000)], [], [(2, 396, 12, km12_c), (14, 403, 12, km21_c), (14, 403, 12, km23_c), (26, 406, 12, km22_c)])
set_option maxRecDepth 100000 in
theorem km24_k : fx_chk TM 2 km24_c 0 km24_x t_X12_sense km24_a km24_s 16 = true := by decide +kernel
set_option maxRecDepth 100000 in
theorem km24 {l : Launch} {E : (Nat → Prop) → State → Prop} {ad : List Nat} {D : va_G} {cy : Nat → ClassId} (h : fx_env E D classes (tys cy) nestW) : fx_Met l yX12_sense (.code yX12_sense cX12_sense 2 (some .int) :: wsL_law) ({ frames := 3, cells := 0, slots := 0, locals := 64 }) E (gsM, TM, cy, fun _ => True) ad D classes km24_c :=
  fx_sound (x := km24_x) (tb := t_X12_sense) (an := km24_a) (sp := km24_s) (rk := 0) 16 h (fun _ _ _ _ _ _ => trivial) (fun _ _ _ _ _ _ => trivial) (ht_tys cy) (by decide) rfl ⟨fx_an, (fx_ac fl_X12_95 (fx_ac fl_X12_384 (fx_an))), fx_an, (fx_ac kc_X12_402 (fx_an)), fx_an, (fx_ac (ev_V (km12 h) (by decide) rfl ⟨by decide, by decide⟩ iV_X12_isSlipOrRow g_X12_396) (fx_ac (ev_V (km21 h) (by decide) rfl ⟨by decide, by decide⟩ iV_X12_layOne g_X12_403) (fx_ac (ev_V (km23 h) (by decide) rfl ⟨by decide, by decide⟩ iV_X12_layOne g_X12_403) (fx_ac (ev_V (km22 h) (by decide) rfl ⟨by decide, by decide⟩ iV_X12_senseOf g_X12_406) (fx_an)))))⟩ d_X12_sense km24_k
-- X12_isIn i i i (-2147483648, 2147483647) (0, 0) (1, 1)
def km25_c : fx_C := ([.inl (-2147483648, 2147483647), .inl (0, 0), .inl (1, 1)], [], [(some (.inl (1, 1)), [.inl (0, 1), .inl (0, 0), .inl (1, 1)], []), (some (.inl (0, 0)), [.inl (-2147483648, 2147483647), .inl (0, 0), .inl (1, 1)], [])], [])
def km25_a : List fx_N := []
def km25_s : List fx_D := []
def km25_x : fx_X := ([], [], [], [], [], [])
set_option maxRecDepth 100000 in
theorem km25_k : fx_chk TM 3 km25_c 3 km25_x t_X12_isIn km25_a km25_s 11 = true := by decide +kernel
set_option maxRecDepth 100000 in
theorem km25 {l : Launch} {E : (Nat → Prop) → State → Prop} {ad : List Nat} {D : va_G} {cy : Nat → ClassId} (h : fx_env E D classes (tys cy) nestW) : fx_Met l yX12_isIn (.code yX12_isIn cX12_isIn 3 (some .boolean) :: wsL_law) ({ frames := 0, cells := 0, slots := 0, locals := 0 }) E (gsM, TM, cy, fun _ => True) ad D classes km25_c :=
  fx_sound (x := km25_x) (tb := t_X12_isIn) (an := km25_a) (sp := km25_s) (rk := 3) 11 h (fun _ _ _ _ _ _ => trivial) (fun _ _ _ _ _ _ => trivial) (ht_tys cy) (by decide) rfl ⟨fx_an, fx_an, fx_an, fx_an, fx_an, fx_an⟩ d_X12_isIn km25_k
-- X12_lacks 0 i
def km26_c : fx_C := ([.inr (.inr 1), .inl (-2147483648, 2147483647)], [], [(some (.inl (-1, -1)), [.inr (.inr 1), .inl (-2147483648, 2147483647)], []), (some (.inl (0, 4095)), [.inr (.inr 1), .inl (0, 4)], [])], [])
def km26_a : List fx_N := [(14, [(0, .inr (.inr 1)), (1, .inl (0, 4)), (2, .inl (0, 4095)), (3, .inl (0, 12))], [], [(0, 1), (1, 3), (0, 0)], [(0, 0), (1, 1)]), (46, [(0, .inr (.inr 1)), (1, .inl (0, 4)), (2, .inl (0, 4095)), (3, .inl (0, 8))], [], [(0, 0), (1, 3), (0, 0)], [(0, 0), (1, 1)])]
def km26_s : List fx_D := []
def km26_x : fx_X := ([], [(92, 12, 41)], [], [], [], [(2, 363, 12, km7_c), (49, 381, 12, km8_c), (60, 387, 12, km10_c)])
set_option maxRecDepth 100000 in
theorem km26_k : fx_chk TM 4 km26_c 0 km26_x t_X12_lacks km26_a km26_s 22 = true := by decide +kernel
set_option maxRecDepth 100000 in
theorem km26 {l : Launch} {E : (Nat → Prop) → State → Prop} {ad : List Nat} {D : va_G} {cy : Nat → ClassId} (h : fx_env E D classes (tys cy) nestW) : fx_Met l yX12_lacks (.code yX12_lacks cX12_lacks 4 (some .int) :: wsL_law) ({ frames := 2, cells := 0, slots := 0, locals := 43 }) E (gsM, TM, cy, fun _ => True) ad D classes km26_c :=
  fx_sound (x := km26_x) (tb := t_X12_lacks) (an := km26_a) (sp := km26_s) (rk := 0) 22 h (fun _ _ _ _ _ _ => trivial) (fun _ _ _ _ _ _ => trivial) (ht_tys cy) (by decide) rfl ⟨fx_an, (fx_ac fl_X12_92 (fx_an)), fx_an, fx_an, fx_an, (fx_ac (ev_V (km7 h) (by decide) rfl ⟨by decide, by decide⟩ iV_X12_isSlip g_X12_363) (fx_ac (ev_V (km8 h) (by decide) rfl ⟨by decide, by decide⟩ iV_X12_longOf g_X12_381) (fx_ac (ev_V (km10 h) (by decide) rfl ⟨by decide, by decide⟩ iV_X12_wordOf g_X12_387) (fx_an))))⟩ d_X12_lacks km26_k
-- X12_isRule i
def km27_c : fx_C := ([.inl (-2147483648, 2147483647)], [], [(some (.inl (1, 1)), [.inl (0, 2)], []), (some (.inl (0, 0)), [.inl (-2147483648, 2147483647)], [])], [])
def km27_a : List fx_N := []
def km27_s : List fx_D := []
def km27_x : fx_X := ([], [], [], [], [], [])
set_option maxRecDepth 100000 in
theorem km27_k : fx_chk TM 1 km27_c 3 km27_x t_X12_isRule km27_a km27_s 10 = true := by decide +kernel
set_option maxRecDepth 100000 in
theorem km27 {l : Launch} {E : (Nat → Prop) → State → Prop} {ad : List Nat} {D : va_G} {cy : Nat → ClassId} (h : fx_env E D classes (tys cy) nestW) : fx_Met l yX12_isRule (.code yX12_isRule cX12_isRule 1 (some .boolean) :: wsL_law) ({ frames := 0, cells := 0, slots := 0, locals := 0 }) E (gsM, TM, cy, fun _ => True) ad D classes km27_c :=
  fx_sound (x := km27_x) (tb := t_X12_isRule) (an := km27_a) (sp := km27_s) (rk := 3) 10 h (fun _ _ _ _ _ _ => trivial) (fun _ _ _ _ _ _ => trivial) (ht_tys cy) (by decide) rfl ⟨fx_an, fx_an, fx_an, fx_an, fx_an, fx_an⟩ d_X12_isRule km27_k
-- X12_drop 0 i ('any',) +
def km28_c : fx_C := ([.inr (.inr 1), .inl (0, 11)], [((0, 41), .inr (.inr 27)), ((2, 12), .inl (1, 12))], [(none, [.inr (.inr 1), .inl (0, 11)], [((0, 41), .inr (.inr 27)), ((2, 12), .inl (0, 11))])], [(1000, 26)])
def km28_a : List fx_N := [(2, [(0, .inr (.inr 1)), (1, .inl (0, 11)), (2, .inl (0, 11))], [((0, 41), .inr (.inr 27)), ((3, 12), .inl (1, 12))], [(0, 0), (1, 2), (0, 0)], [(0, 0), (1, 1)])]
def km28_s : List fx_D := []
def km28_x : fx_X := ([], [(92, 12, 41)], [], [], [], [])
set_option maxRecDepth 100000 in
theorem km28_k : fx_chk TM 3 km28_c 9 km28_x t_X12_drop km28_a km28_s 29 = true := by decide +kernel
set_option maxRecDepth 100000 in
theorem km28 {l : Launch} {E : (Nat → Prop) → State → Prop} {ad : List Nat} {D : va_G} {cy : Nat → ClassId} (h : fx_env E D classes (tys cy) nestW) : fx_Met l yX12_drop (.code yX12_drop cX12_drop 3 none :: wsL_law) ({ frames := 0, cells := 0, slots := 0, locals := 0 }) E (gsM, TM, cy, fun _ => True) ad D classes km28_c :=
  fx_sound (x := km28_x) (tb := t_X12_drop) (an := km28_a) (sp := km28_s) (rk := 9) 29 h (fun _ _ _ _ _ _ => trivial) (fun _ _ _ _ _ _ => trivial) (ht_tys cy) (by decide) rfl ⟨fx_an, (fx_ac fl_X12_92 (fx_an)), fx_an, fx_an, fx_an, fx_an⟩ d_X12_drop km28_k
-- X12_isIn i i i (-2147483648, 2147483647) (0, 0) (0, 0)
def km29_c : fx_C := ([.inl (-2147483648, 2147483647), .inl (0, 0), .inl (0, 0)], [], [(some (.inl (1, 1)), [.inl (0, 0), .inl (0, 0), .inl (0, 0)], []), (some (.inl (0, 0)), [.inl (-2147483648, 2147483647), .inl (0, 0), .inl (0, 0)], [])], [])
def km29_a : List fx_N := []
def km29_s : List fx_D := []
def km29_x : fx_X := ([], [], [], [], [], [])
set_option maxRecDepth 100000 in
theorem km29_k : fx_chk TM 3 km29_c 3 km29_x t_X12_isIn km29_a km29_s 11 = true := by decide +kernel
set_option maxRecDepth 100000 in
theorem km29 {l : Launch} {E : (Nat → Prop) → State → Prop} {ad : List Nat} {D : va_G} {cy : Nat → ClassId} (h : fx_env E D classes (tys cy) nestW) : fx_Met l yX12_isIn (.code yX12_isIn cX12_isIn 3 (some .boolean) :: wsL_law) ({ frames := 0, cells := 0, slots := 0, locals := 0 }) E (gsM, TM, cy, fun _ => True) ad D classes km29_c :=
  fx_sound (x := km29_x) (tb := t_X12_isIn) (an := km29_a) (sp := km29_s) (rk := 3) 11 h (fun _ _ _ _ _ _ => trivial) (fun _ _ _ _ _ _ => trivial) (ht_tys cy) (by decide) rfl ⟨fx_an, fx_an, fx_an, fx_an, fx_an, fx_an⟩ d_X12_isIn km29_k
-- X12_isIn i i i (-2147483648, 2147483647) (0, 0) (2, 2)
def km30_c : fx_C := ([.inl (-2147483648, 2147483647), .inl (0, 0), .inl (2, 2)], [], [(some (.inl (1, 1)), [.inl (0, 2), .inl (0, 0), .inl (2, 2)], []), (some (.inl (0, 0)), [.inl (-2147483648, 2147483647), .inl (0, 0), .inl (2, 2)], [])], [])
def km30_a : List fx_N := []
def km30_s : List fx_D := []
def km30_x : fx_X := ([], [], [], [], [], [])
set_option maxRecDepth 100000 in
theorem km30_k : fx_chk TM 3 km30_c 3 km30_x t_X12_isIn km30_a km30_s 11 = true := by decide +kernel
set_option maxRecDepth 100000 in
theorem km30 {l : Launch} {E : (Nat → Prop) → State → Prop} {ad : List Nat} {D : va_G} {cy : Nat → ClassId} (h : fx_env E D classes (tys cy) nestW) : fx_Met l yX12_isIn (.code yX12_isIn cX12_isIn 3 (some .boolean) :: wsL_law) ({ frames := 0, cells := 0, slots := 0, locals := 0 }) E (gsM, TM, cy, fun _ => True) ad D classes km30_c :=
  fx_sound (x := km30_x) (tb := t_X12_isIn) (an := km30_a) (sp := km30_s) (rk := 3) 11 h (fun _ _ _ _ _ _ => trivial) (fun _ _ _ _ _ _ => trivial) (ht_tys cy) (by decide) rfl ⟨fx_an, fx_an, fx_an, fx_an, fx_an, fx_an⟩ d_X12_isIn km30_k
-- X12_isIn i i i (-2147483648, 2147483647) (0, 0) (3, 3)
def km31_c : fx_C := ([.inl (-2147483648, 2147483647), .inl (0, 0), .inl (3, 3)], [], [(some (.inl (1, 1)), [.inl (0, 3), .inl (0, 0), .inl (3, 3)], []), (some (.inl (0, 0)), [.inl (-2147483648, 2147483647), .inl (0, 0), .inl (3, 3)], [])], [])
def km31_a : List fx_N := []
def km31_s : List fx_D := []
def km31_x : fx_X := ([], [], [], [], [], [])
set_option maxRecDepth 100000 in
theorem km31_k : fx_chk TM 3 km31_c 3 km31_x t_X12_isIn km31_a km31_s 11 = true := by decide +kernel
set_option maxRecDepth 100000 in
theorem km31 {l : Launch} {E : (Nat → Prop) → State → Prop} {ad : List Nat} {D : va_G} {cy : Nat → ClassId} (h : fx_env E D classes (tys cy) nestW) : fx_Met l yX12_isIn (.code yX12_isIn cX12_isIn 3 (some .boolean) :: wsL_law) ({ frames := 0, cells := 0, slots := 0, locals := 0 }) E (gsM, TM, cy, fun _ => True) ad D classes km31_c :=
  fx_sound (x := km31_x) (tb := t_X12_isIn) (an := km31_a) (sp := km31_s) (rk := 3) 11 h (fun _ _ _ _ _ _ => trivial) (fun _ _ _ _ _ _ => trivial) (ht_tys cy) (by decide) rfl ⟨fx_an, fx_an, fx_an, fx_an, fx_an, fx_an⟩ d_X12_isIn km31_k
-- X12_isIn i i i (-2147483648, 2147483647) (0, 0) (4, 4)
def km32_c : fx_C := ([.inl (-2147483648, 2147483647), .inl (0, 0), .inl (4, 4)], [], [(some (.inl (1, 1)), [.inl (0, 4), .inl (0, 0), .inl (4, 4)], []), (some (.inl (0, 0)), [.inl (-2147483648, 2147483647), .inl (0, 0), .inl (4, 4)], [])], [])
def km32_a : List fx_N := []
def km32_s : List fx_D := []
def km32_x : fx_X := ([], [], [], [], [], [])
set_option maxRecDepth 100000 in
theorem km32_k : fx_chk TM 3 km32_c 3 km32_x t_X12_isIn km32_a km32_s 11 = true := by decide +kernel
set_option maxRecDepth 100000 in
theorem km32 {l : Launch} {E : (Nat → Prop) → State → Prop} {ad : List Nat} {D : va_G} {cy : Nat → ClassId} (h : fx_env E D classes (tys cy) nestW) : fx_Met l yX12_isIn (.code yX12_isIn cX12_isIn 3 (some .boolean) :: wsL_law) ({ frames := 0, cells := 0, slots := 0, locals := 0 }) E (gsM, TM, cy, fun _ => True) ad D classes km32_c :=
  fx_sound (x := km32_x) (tb := t_X12_isIn) (an := km32_a) (sp := km32_s) (rk := 3) 11 h (fun _ _ _ _ _ _ => trivial) (fun _ _ _ _ _ _ => trivial) (ht_tys cy) (by decide) rfl ⟨fx_an, fx_an, fx_an, fx_an, fx_an, fx_an⟩ d_X12_isIn km32_k
-- X12_isIn i i i (-2147483648, 2147483647) (0, 0) (5, 5)
def km33_c : fx_C := ([.inl (-2147483648, 2147483647), .inl (0, 0), .inl (5, 5)], [], [(some (.inl (1, 1)), [.inl (0, 5), .inl (0, 0), .inl (5, 5)], []), (some (.inl (0, 0)), [.inl (-2147483648, 2147483647), .inl (0, 0), .inl (5, 5)], [])], [])
def km33_a : List fx_N := []
def km33_s : List fx_D := []
def km33_x : fx_X := ([], [], [], [], [], [])
set_option maxRecDepth 100000 in
theorem km33_k : fx_chk TM 3 km33_c 3 km33_x t_X12_isIn km33_a km33_s 11 = true := by decide +kernel
set_option maxRecDepth 100000 in
theorem km33 {l : Launch} {E : (Nat → Prop) → State → Prop} {ad : List Nat} {D : va_G} {cy : Nat → ClassId} (h : fx_env E D classes (tys cy) nestW) : fx_Met l yX12_isIn (.code yX12_isIn cX12_isIn 3 (some .boolean) :: wsL_law) ({ frames := 0, cells := 0, slots := 0, locals := 0 }) E (gsM, TM, cy, fun _ => True) ad D classes km33_c :=
  fx_sound (x := km33_x) (tb := t_X12_isIn) (an := km33_a) (sp := km33_s) (rk := 3) 11 h (fun _ _ _ _ _ _ => trivial) (fun _ _ _ _ _ _ => trivial) (ht_tys cy) (by decide) rfl ⟨fx_an, fx_an, fx_an, fx_an, fx_an, fx_an⟩ d_X12_isIn km33_k
-- X12_isIn i i i (-2147483648, 2147483647) (0, 0) (6, 6)
def km34_c : fx_C := ([.inl (-2147483648, 2147483647), .inl (0, 0), .inl (6, 6)], [], [(some (.inl (1, 1)), [.inl (0, 6), .inl (0, 0), .inl (6, 6)], []), (some (.inl (0, 0)), [.inl (-2147483648, 2147483647), .inl (0, 0), .inl (6, 6)], [])], [])
def km34_a : List fx_N := []
def km34_s : List fx_D := []
def km34_x : fx_X := ([], [], [], [], [], [])
set_option maxRecDepth 100000 in
theorem km34_k : fx_chk TM 3 km34_c 3 km34_x t_X12_isIn km34_a km34_s 11 = true := by decide +kernel
set_option maxRecDepth 100000 in
theorem km34 {l : Launch} {E : (Nat → Prop) → State → Prop} {ad : List Nat} {D : va_G} {cy : Nat → ClassId} (h : fx_env E D classes (tys cy) nestW) : fx_Met l yX12_isIn (.code yX12_isIn cX12_isIn 3 (some .boolean) :: wsL_law) ({ frames := 0, cells := 0, slots := 0, locals := 0 }) E (gsM, TM, cy, fun _ => True) ad D classes km34_c :=
  fx_sound (x := km34_x) (tb := t_X12_isIn) (an := km34_a) (sp := km34_s) (rk := 3) 11 h (fun _ _ _ _ _ _ => trivial) (fun _ _ _ _ _ _ => trivial) (ht_tys cy) (by decide) rfl ⟨fx_an, fx_an, fx_an, fx_an, fx_an, fx_an⟩ d_X12_isIn km34_k
-- X12_isIn i i i (-2147483648, 2147483647) (0, 0) (7, 7)
def km35_c : fx_C := ([.inl (-2147483648, 2147483647), .inl (0, 0), .inl (7, 7)], [], [(some (.inl (1, 1)), [.inl (0, 7), .inl (0, 0), .inl (7, 7)], []), (some (.inl (0, 0)), [.inl (-2147483648, 2147483647), .inl (0, 0), .inl (7, 7)], [])], [])
def km35_a : List fx_N := []
def km35_s : List fx_D := []
def km35_x : fx_X := ([], [], [], [], [], [])
set_option maxRecDepth 100000 in
theorem km35_k : fx_chk TM 3 km35_c 3 km35_x t_X12_isIn km35_a km35_s 11 = true := by decide +kernel
set_option maxRecDepth 100000 in
theorem km35 {l : Launch} {E : (Nat → Prop) → State → Prop} {ad : List Nat} {D : va_G} {cy : Nat → ClassId} (h : fx_env E D classes (tys cy) nestW) : fx_Met l yX12_isIn (.code yX12_isIn cX12_isIn 3 (some .boolean) :: wsL_law) ({ frames := 0, cells := 0, slots := 0, locals := 0 }) E (gsM, TM, cy, fun _ => True) ad D classes km35_c :=
  fx_sound (x := km35_x) (tb := t_X12_isIn) (an := km35_a) (sp := km35_s) (rk := 3) 11 h (fun _ _ _ _ _ _ => trivial) (fun _ _ _ _ _ _ => trivial) (ht_tys cy) (by decide) rfl ⟨fx_an, fx_an, fx_an, fx_an, fx_an, fx_an⟩ d_X12_isIn km35_k
-- X12_isIn i i i (-2147483648, 2147483647) (0, 0) (8, 8)
def km36_c : fx_C := ([.inl (-2147483648, 2147483647), .inl (0, 0), .inl (8, 8)], [], [(some (.inl (1, 1)), [.inl (0, 8), .inl (0, 0), .inl (8, 8)], []), (some (.inl (0, 0)), [.inl (-2147483648, 2147483647), .inl (0, 0), .inl (8, 8)], [])], [])
def km36_a : List fx_N := []
def km36_s : List fx_D := []
def km36_x : fx_X := ([], [], [], [], [], [])
set_option maxRecDepth 100000 in
theorem km36_k : fx_chk TM 3 km36_c 3 km36_x t_X12_isIn km36_a km36_s 11 = true := by decide +kernel
set_option maxRecDepth 100000 in
theorem km36 {l : Launch} {E : (Nat → Prop) → State → Prop} {ad : List Nat} {D : va_G} {cy : Nat → ClassId} (h : fx_env E D classes (tys cy) nestW) : fx_Met l yX12_isIn (.code yX12_isIn cX12_isIn 3 (some .boolean) :: wsL_law) ({ frames := 0, cells := 0, slots := 0, locals := 0 }) E (gsM, TM, cy, fun _ => True) ad D classes km36_c :=
  fx_sound (x := km36_x) (tb := t_X12_isIn) (an := km36_a) (sp := km36_s) (rk := 3) 11 h (fun _ _ _ _ _ _ => trivial) (fun _ _ _ _ _ _ => trivial) (ht_tys cy) (by decide) rfl ⟨fx_an, fx_an, fx_an, fx_an, fx_an, fx_an⟩ d_X12_isIn km36_k
-- X12_isIn i i i (-2147483648, 2147483647) (0, 0) (9, 9)
def km37_c : fx_C := ([.inl (-2147483648, 2147483647), .inl (0, 0), .inl (9, 9)], [], [(some (.inl (1, 1)), [.inl (0, 9), .inl (0, 0), .inl (9, 9)], []), (some (.inl (0, 0)), [.inl (-2147483648, 2147483647), .inl (0, 0), .inl (9, 9)], [])], [])
def km37_a : List fx_N := []
def km37_s : List fx_D := []
def km37_x : fx_X := ([], [], [], [], [], [])
set_option maxRecDepth 100000 in
theorem km37_k : fx_chk TM 3 km37_c 3 km37_x t_X12_isIn km37_a km37_s 11 = true := by decide +kernel
set_option maxRecDepth 100000 in
theorem km37 {l : Launch} {E : (Nat → Prop) → State → Prop} {ad : List Nat} {D : va_G} {cy : Nat → ClassId} (h : fx_env E D classes (tys cy) nestW) : fx_Met l yX12_isIn (.code yX12_isIn cX12_isIn 3 (some .boolean) :: wsL_law) ({ frames := 0, cells := 0, slots := 0, locals := 0 }) E (gsM, TM, cy, fun _ => True) ad D classes km37_c :=
  fx_sound (x := km37_x) (tb := t_X12_isIn) (an := km37_a) (sp := km37_s) (rk := 3) 11 h (fun _ _ _ _ _ _ => trivial) (fun _ _ _ _ _ _ => trivial) (ht_tys cy) (by decide) rfl ⟨fx_an, fx_an, fx_an, fx_an, fx_an, fx_an⟩ d_X12_isIn km37_k
-- X12_isIn i i i (-2147483648, 2147483647) (0, 0) (10, 10)
def km38_c : fx_C := ([.inl (-2147483648, 2147483647), .inl (0, 0), .inl (10, 10)], [], [(some (.inl (1, 1)), [.inl (0, 10), .inl (0, 0), .inl (10, 10)], []), (some (.inl (0, 0)), [.inl (-2147483648, 2147483647), .inl (0, 0), .inl (10, 10)], [])], [])
def km38_a : List fx_N := []
def km38_s : List fx_D := []
def km38_x : fx_X := ([], [], [], [], [], [])
set_option maxRecDepth 100000 in
theorem km38_k : fx_chk TM 3 km38_c 3 km38_x t_X12_isIn km38_a km38_s 11 = true := by decide +kernel
set_option maxRecDepth 100000 in
theorem km38 {l : Launch} {E : (Nat → Prop) → State → Prop} {ad : List Nat} {D : va_G} {cy : Nat → ClassId} (h : fx_env E D classes (tys cy) nestW) : fx_Met l yX12_isIn (.code yX12_isIn cX12_isIn 3 (some .boolean) :: wsL_law) ({ frames := 0, cells := 0, slots := 0, locals := 0 }) E (gsM, TM, cy, fun _ => True) ad D classes km38_c :=
  fx_sound (x := km38_x) (tb := t_X12_isIn) (an := km38_a) (sp := km38_s) (rk := 3) 11 h (fun _ _ _ _ _ _ => trivial) (fun _ _ _ _ _ _ => trivial) (ht_tys cy) (by decide) rfl ⟨fx_an, fx_an, fx_an, fx_an, fx_an, fx_an⟩ d_X12_isIn km38_k
-- X12_isIn i i i (-2147483648, 2147483647) (0, 0) (11, 11)
def km39_c : fx_C := ([.inl (-2147483648, 2147483647), .inl (0, 0), .inl (11, 11)], [], [(some (.inl (1, 1)), [.inl (0, 11), .inl (0, 0), .inl (11, 11)], []), (some (.inl (0, 0)), [.inl (-2147483648, 2147483647), .inl (0, 0), .inl (11, 11)], [])], [])
def km39_a : List fx_N := []
def km39_s : List fx_D := []
def km39_x : fx_X := ([], [], [], [], [], [])
set_option maxRecDepth 100000 in
theorem km39_k : fx_chk TM 3 km39_c 3 km39_x t_X12_isIn km39_a km39_s 11 = true := by decide +kernel
set_option maxRecDepth 100000 in
theorem km39 {l : Launch} {E : (Nat → Prop) → State → Prop} {ad : List Nat} {D : va_G} {cy : Nat → ClassId} (h : fx_env E D classes (tys cy) nestW) : fx_Met l yX12_isIn (.code yX12_isIn cX12_isIn 3 (some .boolean) :: wsL_law) ({ frames := 0, cells := 0, slots := 0, locals := 0 }) E (gsM, TM, cy, fun _ => True) ad D classes km39_c :=
  fx_sound (x := km39_x) (tb := t_X12_isIn) (an := km39_a) (sp := km39_s) (rk := 3) 11 h (fun _ _ _ _ _ _ => trivial) (fun _ _ _ _ _ _ => trivial) (ht_tys cy) (by decide) rfl ⟨fx_an, fx_an, fx_an, fx_an, fx_an, fx_an⟩ d_X12_isIn km39_k
-- X12_isIn i i i (-2147483648, 2147483647) (0, 0) (12, 12)
def km40_c : fx_C := ([.inl (-2147483648, 2147483647), .inl (0, 0), .inl (12, 12)], [], [(some (.inl (1, 1)), [.inl (0, 12), .inl (0, 0), .inl (12, 12)], []), (some (.inl (0, 0)), [.inl (-2147483648, 2147483647), .inl (0, 0), .inl (12, 12)], [])], [])
def km40_a : List fx_N := []
def km40_s : List fx_D := []
def km40_x : fx_X := ([], [], [], [], [], [])
set_option maxRecDepth 100000 in
theorem km40_k : fx_chk TM 3 km40_c 3 km40_x t_X12_isIn km40_a km40_s 11 = true := by decide +kernel
set_option maxRecDepth 100000 in
theorem km40 {l : Launch} {E : (Nat → Prop) → State → Prop} {ad : List Nat} {D : va_G} {cy : Nat → ClassId} (h : fx_env E D classes (tys cy) nestW) : fx_Met l yX12_isIn (.code yX12_isIn cX12_isIn 3 (some .boolean) :: wsL_law) ({ frames := 0, cells := 0, slots := 0, locals := 0 }) E (gsM, TM, cy, fun _ => True) ad D classes km40_c :=
  fx_sound (x := km40_x) (tb := t_X12_isIn) (an := km40_a) (sp := km40_s) (rk := 3) 11 h (fun _ _ _ _ _ _ => trivial) (fun _ _ _ _ _ _ => trivial) (ht_tys cy) (by decide) rfl ⟨fx_an, fx_an, fx_an, fx_an, fx_an, fx_an⟩ d_X12_isIn km40_k
-- X12_layTwo 0 i -
def km41_c : fx_C := ([.inr (.inr 1), .inl (-1, -1)], [], [(none, [.inr (.inr 1), .inl (-1, -1)], [])], [(12, 46), (1000, 28)])
def km41_a : List fx_N := [(11, [(0, .inr (.inr 1)), (1, .inl (-1, -1)), (2, .inl (0, 12))], [], [(0, 0), (1, 2), (0, 0)], [(0, 0), (1, 1)])]
def km41_s : List fx_D := []
def km41_x : fx_X := ([], [(98, 12, 43), (390, 12, 46)], [(390, 12, 46, 0)], [], [], [(3, 381, 12, km13_c), (27, 387, 12, km20_c)])
set_option maxRecDepth 100000 in
theorem km41_k : fx_chk TM 3 km41_c 9 km41_x t_X12_layTwo km41_a km41_s 17 = true := by decide +kernel
set_option maxRecDepth 100000 in
theorem km41 {l : Launch} {E : (Nat → Prop) → State → Prop} {ad : List Nat} {D : va_G} {cy : Nat → ClassId} (h : fx_env E D classes (tys cy) nestW) : fx_Met l yX12_layTwo (.code yX12_layTwo cX12_layTwo 3 none :: wsL_law) ({ frames := 1, cells := 0, slots := 0, locals := 22 }) E (gsM, TM, cy, fun _ => True) ad D classes km41_c :=
  fx_sound (x := km41_x) (tb := t_X12_layTwo) (an := km41_a) (sp := km41_s) (rk := 9) 17 h (fun _ _ _ _ _ _ => trivial) (fun _ _ _ _ _ _ => trivial) (ht_tys cy) (by decide) rfl ⟨fx_an, (fx_ac fl_X12_98 (fx_ac fl_X12_390 (fx_an))), (fx_ac pl_X12_390 (fx_an)), fx_an, fx_an, (fx_ac (ev_V (km13 h) (by decide) rfl ⟨by decide, by decide⟩ iV_X12_longOf g_X12_381) (fx_ac (ev_V (km20 h) (by decide) rfl ⟨by decide, by decide⟩ iV_X12_wordOf g_X12_387) (fx_an)))⟩ d_X12_layTwo km41_k
-- X12_countWays 0
def km42_c : fx_C := ([.inr (.inr 1)], [], [(some (.inl (-2147483648, 2147483647)), [.inr (.inr 1)], [])], [(1000, 31)])
def km42_a : List fx_N := [(2, [(0, .inr (.inr 1)), (1, .inl (0, 13))], [], [(0, 1), (1, 1), (0, 0), (0, 0), (0, 0)], [(0, 0)]), (33, [(0, .inr (.inr 1)), (1, .inl (0, 12))], [], [(0, 0), (1, 1), (0, 1), (0, 0), (0, 0)], [(0, 0)]), (46, [(0, .inr (.inr 1)), (1, .inl (0, 11)), (2, .inl (0, 12))], [((0, 46), .inl (1, 12))], [(0, 0), (1, 1), (0, 0), (2, 2), (0, 0)], [(0, 0)])]
def km42_s : List fx_D := []
def km42_x : fx_X := ([], [(95, 12, 42), (98, 12, 43), (107, 12, 51), (384, 12, 45), (390, 12, 46)], [], [], [], [])
set_option maxRecDepth 100000 in
theorem km42_k : fx_chk TM 3 km42_c 0 km42_x t_X12_countWays km42_a km42_s 31 = true := by decide +kernel
set_option maxRecDepth 100000 in
theorem km42 {l : Launch} {E : (Nat → Prop) → State → Prop} {ad : List Nat} {D : va_G} {cy : Nat → ClassId} (h : fx_env E D classes (tys cy) nestW) : fx_Met l yX12_countWays (.code yX12_countWays cX12_countWays 3 (some .int) :: wsL_law) ({ frames := 0, cells := 0, slots := 0, locals := 0 }) E (gsM, TM, cy, fun _ => True) ad D classes km42_c :=
  fx_sound (x := km42_x) (tb := t_X12_countWays) (an := km42_a) (sp := km42_s) (rk := 0) 31 h (fun _ _ _ _ _ _ => trivial) (fun _ _ _ _ _ _ => trivial) (ht_tys cy) (by decide) rfl ⟨fx_an, (fx_ac fl_X12_95 (fx_ac fl_X12_98 (fx_ac fl_X12_107 (fx_ac fl_X12_384 (fx_ac fl_X12_390 (fx_an)))))), fx_an, fx_an, fx_an, fx_an⟩ d_X12_countWays km42_k
-- X12_layTwo 0 i +
def km43_c : fx_C := ([.inr (.inr 1), .inl (0, 4)], [], [(none, [.inr (.inr 1), .inl (0, 4)], [((0, 46), .inl (0, 8))])], [(12, 46), (1000, 28)])
def km43_a : List fx_N := [(11, [(0, .inr (.inr 1)), (1, .inl (0, 4)), (2, .inl (0, 8))], [((0, 46), .inl (0, 8))], [(0, 0), (1, 2), (0, 0)], [(0, 0), (1, 1)])]
def km43_s : List fx_D := []
def km43_x : fx_X := ([], [(98, 12, 43), (390, 12, 46)], [(390, 12, 46, 0)], [], [], [(3, 381, 12, km8_c), (27, 387, 12, km10_c)])
set_option maxRecDepth 100000 in
theorem km43_k : fx_chk TM 3 km43_c 9 km43_x t_X12_layTwo km43_a km43_s 17 = true := by decide +kernel
set_option maxRecDepth 100000 in
theorem km43 {l : Launch} {E : (Nat → Prop) → State → Prop} {ad : List Nat} {D : va_G} {cy : Nat → ClassId} (h : fx_env E D classes (tys cy) nestW) : fx_Met l yX12_layTwo (.code yX12_layTwo cX12_layTwo 3 none :: wsL_law) ({ frames := 1, cells := 0, slots := 0, locals := 22 }) E (gsM, TM, cy, fun _ => True) ad D classes km43_c :=
  fx_sound (x := km43_x) (tb := t_X12_layTwo) (an := km43_a) (sp := km43_s) (rk := 9) 17 h (fun _ _ _ _ _ _ => trivial) (fun _ _ _ _ _ _ => trivial) (ht_tys cy) (by decide) rfl ⟨fx_an, (fx_ac fl_X12_98 (fx_ac fl_X12_390 (fx_an))), (fx_ac pl_X12_390 (fx_an)), fx_an, fx_an, (fx_ac (ev_V (km8 h) (by decide) rfl ⟨by decide, by decide⟩ iV_X12_longOf g_X12_381) (fx_ac (ev_V (km10 h) (by decide) rfl ⟨by decide, by decide⟩ iV_X12_wordOf g_X12_387) (fx_an)))⟩ d_X12_layTwo km43_k
-- X12_ways 0 i i
def km44_c : fx_C := ([.inr (.inr 1), .inl (-2147483648, 2147483647), .inl (-2147483648, 2147483647)], [], [(some (.inl (-2147483648, 2147483647)), [.inr (.inr 1), .inl (-1, 4), .inl (-1, 4)], []), (some (.inl (-1, -1)), [.inr (.inr 1), .inl (-2147483648, 2147483647), .inl (-2147483648, 2147483647)], [])], [(12, 45), (12, 46), (1000, 27), (1000, 28), (1000, 31)])
def km44_a : List fx_N := []
def km44_s : List fx_D := []
def km44_x : fx_X := ([], [], [], [], [], [(2, 396, 12, km12_c), (10, 396, 12, km12_c), (20, 403, 12, km21_c), (20, 403, 12, km23_c), (25, 431, 12, km41_c), (25, 431, 12, km43_c), (29, 434, 12, km42_c)])
set_option maxRecDepth 100000 in
theorem km44_k : fx_chk TM 3 km44_c 0 km44_x t_X12_ways km44_a km44_s 19 = true := by decide +kernel
set_option maxRecDepth 100000 in
theorem km44 {l : Launch} {E : (Nat → Prop) → State → Prop} {ad : List Nat} {D : va_G} {cy : Nat → ClassId} (h : fx_env E D classes (tys cy) nestW) : fx_Met l yX12_ways (.code yX12_ways cX12_ways 3 (some .int) :: wsL_law) ({ frames := 3, cells := 0, slots := 0, locals := 64 }) E (gsM, TM, cy, fun _ => True) ad D classes km44_c :=
  fx_sound (x := km44_x) (tb := t_X12_ways) (an := km44_a) (sp := km44_s) (rk := 0) 19 h (fun _ _ _ _ _ _ => trivial) (fun _ _ _ _ _ _ => trivial) (ht_tys cy) (by decide) rfl ⟨fx_an, fx_an, fx_an, fx_an, fx_an, (fx_ac (ev_V (km12 h) (by decide) rfl ⟨by decide, by decide⟩ iV_X12_isSlipOrRow g_X12_396) (fx_ac (ev_V (km12 h) (by decide) rfl ⟨by decide, by decide⟩ iV_X12_isSlipOrRow g_X12_396) (fx_ac (ev_V (km21 h) (by decide) rfl ⟨by decide, by decide⟩ iV_X12_layOne g_X12_403) (fx_ac (ev_V (km23 h) (by decide) rfl ⟨by decide, by decide⟩ iV_X12_layOne g_X12_403) (fx_ac (ev_V (km41 h) (by decide) rfl ⟨by decide, by decide⟩ iV_X12_layTwo g_X12_431) (fx_ac (ev_V (km43 h) (by decide) rfl ⟨by decide, by decide⟩ iV_X12_layTwo g_X12_431) (fx_ac (ev_V (km42 h) (by decide) rfl ⟨by decide, by decide⟩ iV_X12_countWays g_X12_434) (fx_an))))))))⟩ d_X12_ways km44_k
-- X12_layBoth 0 i i
def km45_c : fx_C := ([.inr (.inr 1), .inl (-2147483648, 2147483647), .inl (-2147483648, 2147483647)], [], [(some (.inl (1, 1)), [.inr (.inr 1), .inl (0, 4), .inl (0, 4)], [((0, 45), .inl (0, 8)), ((0, 46), .inl (0, 8)), ((0, 47), .inl (0, 0))]), (some (.inl (0, 0)), [.inr (.inr 1), .inl (-2147483648, 2147483647), .inl (-2147483648, 2147483647)], [])], [(12, 45), (12, 46), (12, 47), (1000, 27), (1000, 28)])
def km45_a : List fx_N := []
def km45_s : List fx_D := []
def km45_x : fx_X := ([], [], [(443, 12, 47, 0)], [], [], [(2, 363, 12, km7_c), (10, 363, 12, km7_c), (20, 403, 12, km23_c), (25, 431, 12, km43_c)])
set_option maxRecDepth 100000 in
theorem km45_k : fx_chk TM 3 km45_c 3 km45_x t_X12_layBoth km45_a km45_s 21 = true := by decide +kernel
set_option maxRecDepth 100000 in
theorem km45 {l : Launch} {E : (Nat → Prop) → State → Prop} {ad : List Nat} {D : va_G} {cy : Nat → ClassId} (h : fx_env E D classes (tys cy) nestW) : fx_Met l yX12_layBoth (.code yX12_layBoth cX12_layBoth 3 (some .boolean) :: wsL_law) ({ frames := 2, cells := 0, slots := 0, locals := 44 }) E (gsM, TM, cy, fun _ => True) ad D classes km45_c :=
  fx_sound (x := km45_x) (tb := t_X12_layBoth) (an := km45_a) (sp := km45_s) (rk := 3) 21 h (fun _ _ _ _ _ _ => trivial) (fun _ _ _ _ _ _ => trivial) (ht_tys cy) (by decide) rfl ⟨fx_an, fx_an, (fx_ac pl_X12_443 (fx_an)), fx_an, fx_an, (fx_ac (ev_V (km7 h) (by decide) rfl ⟨by decide, by decide⟩ iV_X12_isSlip g_X12_363) (fx_ac (ev_V (km7 h) (by decide) rfl ⟨by decide, by decide⟩ iV_X12_isSlip g_X12_363) (fx_ac (ev_V (km23 h) (by decide) rfl ⟨by decide, by decide⟩ iV_X12_layOne g_X12_403) (fx_ac (ev_V (km43 h) (by decide) rfl ⟨by decide, by decide⟩ iV_X12_layTwo g_X12_431) (fx_an)))))⟩ d_X12_layBoth km45_k
-- X12_place i i i
def km46_c : fx_C := ([.inl (0, 12), .inl (0, 12), .inl (0, 12)], [], [(some (.inl (0, 2196)), [.inl (0, 12), .inl (0, 12), .inl (0, 12)], [])], [])
def km46_a : List fx_N := []
def km46_s : List fx_D := []
def km46_x : fx_X := ([], [], [], [], [], [])
set_option maxRecDepth 100000 in
theorem km46_k : fx_chk TM 3 km46_c 0 km46_x t_X12_place km46_a km46_s 12 = true := by decide +kernel
set_option maxRecDepth 100000 in
theorem km46 {l : Launch} {E : (Nat → Prop) → State → Prop} {ad : List Nat} {D : va_G} {cy : Nat → ClassId} (h : fx_env E D classes (tys cy) nestW) : fx_Met l yX12_place (.code yX12_place cX12_place 3 (some .int) :: wsL_law) ({ frames := 0, cells := 0, slots := 0, locals := 0 }) E (gsM, TM, cy, fun _ => True) ad D classes km46_c :=
  fx_sound (x := km46_x) (tb := t_X12_place) (an := km46_a) (sp := km46_s) (rk := 0) 12 h (fun _ _ _ _ _ _ => trivial) (fun _ _ _ _ _ _ => trivial) (ht_tys cy) (by decide) rfl ⟨fx_an, fx_an, fx_an, fx_an, fx_an, fx_an⟩ d_X12_place km46_k
-- X12_stepBy 0 i i i i
def km47_c : fx_C := ([.inr (.inr 1), .inl (0, 8), .inl (0, 12), .inl (0, 12), .inl (0, 12)], [], [(some (.inl (0, 2196)), [.inr (.inr 1), .inl (0, 8), .inl (0, 12), .inl (0, 12), .inl (0, 12)], [])], [])
def km47_a : List fx_N := []
def km47_s : List fx_D := []
def km47_x : fx_X := ([], [(95, 12, 42), (98, 12, 43), (101, 12, 44), (384, 12, 45), (390, 12, 46), (443, 12, 47)], [], [], [], [(91, 446, 1000, km46_c)])
set_option maxRecDepth 100000 in
theorem km47_k : fx_chk TM 8 km47_c 0 km47_x t_X12_stepBy km47_a km47_s 52 = true := by decide +kernel
set_option maxRecDepth 100000 in
theorem km47 {l : Launch} {E : (Nat → Prop) → State → Prop} {ad : List Nat} {D : va_G} {cy : Nat → ClassId} (h : fx_env E D classes (tys cy) nestW) : fx_Met l yX12_stepBy (.code yX12_stepBy cX12_stepBy 8 (some .int) :: wsL_law) ({ frames := 1, cells := 0, slots := 0, locals := 22 }) E (gsM, TM, cy, fun _ => True) ad D classes km47_c :=
  fx_sound (x := km47_x) (tb := t_X12_stepBy) (an := km47_a) (sp := km47_s) (rk := 0) 52 h (fun _ _ _ _ _ _ => trivial) (fun _ _ _ _ _ _ => trivial) (ht_tys cy) (by decide) rfl ⟨fx_an, (fx_ac fl_X12_95 (fx_ac fl_X12_98 (fx_ac fl_X12_101 (fx_ac fl_X12_384 (fx_ac fl_X12_390 (fx_ac fl_X12_443 (fx_an))))))), fx_an, fx_an, fx_an, (fx_ac (ev_S (km46 h) ⟨by decide, by decide⟩ iS_X12_place g_X12_446) (fx_an))⟩ d_X12_stepBy km47_k
