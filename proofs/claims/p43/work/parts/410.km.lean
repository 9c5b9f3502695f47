-- X12_feed 0 i i i i i
def km0_c : fx_C := ([.inr (.inr 1), .inl (-2147483648, 2147483647), .inl (-2147483648, 2147483647), .inl (-2147483648, 2147483647), .inl (-2147483648, 2147483647), .inl (-2147483648, 2147483647)], [], [(some (.inl (-1, -1)), [.inr (.inr 1), .inl (-2147483648, 2147483647), .inl (-2147483648, 2147483647), .inl (-2147483648, 2147483647), .inl (-2147483648, 2147483647), .inl (-2147483648, 2147483647)], [((0, 2), .inl (1581, 1600))]), (some (.inl (20, 1600)), [.inr (.inr 1), .inl (-2147483648, 2147483647), .inl (-2147483648, 2147483647), .inl (-2147483648, 2147483647), .inl (-2147483648, 2147483647), .inl (-2147483648, 2147483647)], [((0, 2), .inl (20, 1600))])], [(12, 2), (1000, 1)])
def km0_a : List fx_N := [(18, [(0, .inr (.inr 1)), (1, .inl (-2147483648, 2147483647)), (2, .inl (-2147483648, 2147483647)), (3, .inl (-2147483648, 2147483647)), (4, .inl (-2147483648, 2147483647)), (5, .inl (-2147483648, 2147483647)), (6, .inl (0, 20))], [((0, 2), .inl (0, 1580))], [(0, 0), (1, 6), (0, 0)], [(0, 0), (1, 1), (2, 2), (3, 3), (4, 4), (5, 5)])]
def km0_s : List fx_D := []
def km0_x : fx_X := ([], [(7, 12, 0), (271, 12, 2)], [(271, 12, 2, 0)], [], [], [])
set_option maxRecDepth 100000 in
theorem km0_k : fx_chk TM 8 km0_c 0 km0_x t_X12_feed km0_a km0_s 40 = true := by decide +kernel
set_option maxRecDepth 100000 in
theorem km0 {l : Launch} {E : (Nat → Prop) → State → Prop} {ad : List Nat} {D : va_G} {cy : Nat → ClassId} (h : fx_env E D classes (tys cy) nestW) : fx_Met l yX12_feed (.code yX12_feed cX12_feed 8 (some .int) :: wsL_law) ({ frames := 0, cells := 0, slots := 0, locals := 0 }) E (gsM, TM, cy, fun _ => True) ad D classes km0_c :=
  fx_sound (x := km0_x) (tb := t_X12_feed) (an := km0_a) (sp := km0_s) (rk := 0) 40 h (fun _ _ _ _ _ _ => trivial) (fun _ _ _ _ _ _ => trivial) (ht_tys cy) (by decide) rfl ⟨fx_an, (fx_ac fl_X12_7 (fx_ac fl_X12_271 (fx_an))), (fx_ac pl_X12_271 (fx_an)), fx_an, fx_an, fx_an⟩ d_X12_feed km0_k
-- X12_end 0 i
def km1_c : fx_C := ([.inr (.inr 1), .inl (-2147483648, 2147483647)], [], [(some (.inl (-1, -1)), [.inr (.inr 1), .inl (-2147483648, 2147483647)], []), (some (.inl (0, 1600)), [.inr (.inr 1), .inl (0, 1600)], [])], [(12, 2)])
def km1_a : List fx_N := []
def km1_s : List fx_D := []
def km1_x : fx_X := ([], [(271, 12, 2)], [(271, 12, 2, 0)], [], [], [])
set_option maxRecDepth 100000 in
theorem km1_k : fx_chk TM 2 km1_c 0 km1_x t_X12_end km1_a km1_s 13 = true := by decide +kernel
set_option maxRecDepth 100000 in
theorem km1 {l : Launch} {E : (Nat → Prop) → State → Prop} {ad : List Nat} {D : va_G} {cy : Nat → ClassId} (h : fx_env E D classes (tys cy) nestW) : fx_Met l yX12_end (.code yX12_end cX12_end 2 (some .int) :: wsL_law) ({ frames := 0, cells := 0, slots := 0, locals := 0 }) E (gsM, TM, cy, fun _ => True) ad D classes km1_c :=
  fx_sound (x := km1_x) (tb := t_X12_end) (an := km1_a) (sp := km1_s) (rk := 0) 13 h (fun _ _ _ _ _ _ => trivial) (fun _ _ _ _ _ _ => trivial) (ht_tys cy) (by decide) rfl ⟨fx_an, (fx_ac fl_X12_271 (fx_an)), (fx_ac pl_X12_271 (fx_an)), fx_an, fx_an, fx_an⟩ d_X12_end km1_k
-- X12_fault 0 i
def km2_c : fx_C := ([.inr (.inr 1), .inl (-2147483648, 2147483647)], [], [(some (.inl (-2147483648, 2147483647)), [.inr (.inr 1), .inl (0, 1)], []), (some (.inl (-1, -1)), [.inr (.inr 1), .inl (-2147483648, 2147483647)], [])], [])
def km2_a : List fx_N := []
def km2_s : List fx_D := []
def km2_x : fx_X := ([], [(16, 12, 5), (170, 12, 4)], [], [], [], [])
set_option maxRecDepth 100000 in
theorem km2_k : fx_chk TM 2 km2_c 0 km2_x t_X12_fault km2_a km2_s 11 = true := by decide +kernel
set_option maxRecDepth 100000 in
theorem km2 {l : Launch} {E : (Nat → Prop) → State → Prop} {ad : List Nat} {D : va_G} {cy : Nat → ClassId} (h : fx_env E D classes (tys cy) nestW) : fx_Met l yX12_fault (.code yX12_fault cX12_fault 2 (some .int) :: wsL_law) ({ frames := 0, cells := 0, slots := 0, locals := 0 }) E (gsM, TM, cy, fun _ => True) ad D classes km2_c :=
  fx_sound (x := km2_x) (tb := t_X12_fault) (an := km2_a) (sp := km2_s) (rk := 0) 11 h (fun _ _ _ _ _ _ => trivial) (fun _ _ _ _ _ _ => trivial) (ht_tys cy) (by decide) rfl ⟨fx_an, (fx_ac fl_X12_16 (fx_ac fl_X12_170 (fx_an))), fx_an, fx_an, fx_an, fx_an⟩ d_X12_fault km2_k
-- X12_isIn i i i (-2147483648, 2147483647) (0, 0) (-1, 11)
def km3_c : fx_C := ([.inl (-2147483648, 2147483647), .inl (0, 0), .inl (-1, 11)], [], [(some (.inl (1, 1)), [.inl (0, 11), .inl (0, 0), .inl (0, 11)], []), (some (.inl (0, 0)), [.inl (-2147483648, 2147483647), .inl (0, 0), .inl (-1, 11)], [])], [])
def km3_a : List fx_N := []
def km3_s : List fx_D := []
def km3_x : fx_X := ([], [], [], [], [], [])
set_option maxRecDepth 100000 in
theorem km3_k : fx_chk TM 3 km3_c 3 km3_x t_X12_isIn km3_a km3_s 11 = true := by decide +kernel
set_option maxRecDepth 100000 in
theorem km3 {l : Launch} {E : (Nat → Prop) → State → Prop} {ad : List Nat} {D : va_G} {cy : Nat → ClassId} (h : fx_env E D classes (tys cy) nestW) : fx_Met l yX12_isIn (.code yX12_isIn cX12_isIn 3 (some .boolean) :: wsL_law) ({ frames := 0, cells := 0, slots := 0, locals := 0 }) E (gsM, TM, cy, fun _ => True) ad D classes km3_c :=
  fx_sound (x := km3_x) (tb := t_X12_isIn) (an := km3_a) (sp := km3_s) (rk := 3) 11 h (fun _ _ _ _ _ _ => trivial) (fun _ _ _ _ _ _ => trivial) (ht_tys cy) (by decide) rfl ⟨fx_an, fx_an, fx_an, fx_an, fx_an, fx_an⟩ d_X12_isIn km3_k
-- X12_isPlace 0 i
def km4_c : fx_C := ([.inr (.inr 1), .inl (-2147483648, 2147483647)], [], [(some (.inl (0, 0)), [.inr (.inr 1), .inl (-2147483648, 2147483647)], []), (some (.inl (1, 1)), [.inr (.inr 1), .inl (0, 11)], [((0, 41), .inr (.inr 43)), ((2, 12), .inl (1, 12))])], [])
def km4_a : List fx_N := []
def km4_s : List fx_D := []
def km4_x : fx_X := ([], [(92, 12, 41)], [], [], [], [(11, 359, 1000, km3_c)])
set_option maxRecDepth 100000 in
theorem km4_k : fx_chk TM 2 km4_c 3 km4_x t_X12_isPlace km4_a km4_s 12 = true := by decide +kernel
set_option maxRecDepth 100000 in
theorem km4 {l : Launch} {E : (Nat → Prop) → State → Prop} {ad : List Nat} {D : va_G} {cy : Nat → ClassId} (h : fx_env E D classes (tys cy) nestW) : fx_Met l yX12_isPlace (.code yX12_isPlace cX12_isPlace 2 (some .boolean) :: wsL_law) ({ frames := 1, cells := 0, slots := 0, locals := 22 }) E (gsM, TM, cy, fun _ => True) ad D classes km4_c :=
  fx_sound (x := km4_x) (tb := t_X12_isPlace) (an := km4_a) (sp := km4_s) (rk := 3) 12 h (fun _ _ _ _ _ _ => trivial) (fun _ _ _ _ _ _ => trivial) (ht_tys cy) (by decide) rfl ⟨fx_an, (fx_ac fl_X12_92 (fx_an)), fx_an, fx_an, fx_an, (fx_ac (ev_S (km3 h) ⟨by decide, by decide⟩ iS_X12_isIn g_X12_359) (fx_an))⟩ d_X12_isPlace km4_k
-- X12_word 0 i
def km5_c : fx_C := ([.inr (.inr 1), .inl (-2147483648, 2147483647)], [], [(some (.inl (0, 8)), [.inr (.inr 1), .inl (0, 11)], [((0, 41), .inr (.inr 43)), ((2, 12), .inl (1, 12))]), (some (.inl (-1, -1)), [.inr (.inr 1), .inl (-2147483648, 2147483647)], [])], [])
def km5_a : List fx_N := []
def km5_s : List fx_D := []
def km5_x : fx_X := ([], [(92, 12, 41)], [], [], [], [(2, 393, 12, km4_c)])
set_option maxRecDepth 100000 in
theorem km5_k : fx_chk TM 2 km5_c 0 km5_x t_X12_word km5_a km5_s 14 = true := by decide +kernel
set_option maxRecDepth 100000 in
theorem km5 {l : Launch} {E : (Nat → Prop) → State → Prop} {ad : List Nat} {D : va_G} {cy : Nat → ClassId} (h : fx_env E D classes (tys cy) nestW) : fx_Met l yX12_word (.code yX12_word cX12_word 2 (some .int) :: wsL_law) ({ frames := 2, cells := 0, slots := 0, locals := 43 }) E (gsM, TM, cy, fun _ => True) ad D classes km5_c :=
  fx_sound (x := km5_x) (tb := t_X12_word) (an := km5_a) (sp := km5_s) (rk := 0) 14 h (fun _ _ _ _ _ _ => trivial) (fun _ _ _ _ _ _ => trivial) (ht_tys cy) (by decide) rfl ⟨fx_an, (fx_ac fl_X12_92 (fx_an)), fx_an, fx_an, fx_an, (fx_ac (ev_V (km4 h) (by decide) rfl ⟨by decide, by decide⟩ iV_X12_isPlace g_X12_393) (fx_an))⟩ d_X12_word km5_k
-- X12_isIn i i i (-2147483648, 2147483647) (0, 0) (-1, 4)
def km6_c : fx_C := ([.inl (-2147483648, 2147483647), .inl (0, 0), .inl (-1, 4)], [], [(some (.inl (1, 1)), [.inl (0, 4), .inl (0, 0), .inl (0, 4)], []), (some (.inl (0, 0)), [.inl (-2147483648, 2147483647), .inl (0, 0), .inl (-1, 4)], [])], [])
def km6_a : List fx_N := []
def km6_s : List fx_D := []
def km6_x : fx_X := ([], [], [], [], [], [])
set_option maxRecDepth 100000 in
theorem km6_k : fx_chk TM 3 km6_c 3 km6_x t_X12_isIn km6_a km6_s 11 = true := by decide +kernel
set_option maxRecDepth 100000 in
theorem km6 {l : Launch} {E : (Nat → Prop) → State → Prop} {ad : List Nat} {D : va_G} {cy : Nat → ClassId} (h : fx_env E D classes (tys cy) nestW) : fx_Met l yX12_isIn (.code yX12_isIn cX12_isIn 3 (some .boolean) :: wsL_law) ({ frames := 0, cells := 0, slots := 0, locals := 0 }) E (gsM, TM, cy, fun _ => True) ad D classes km6_c :=
  fx_sound (x := km6_x) (tb := t_X12_isIn) (an := km6_a) (sp := km6_s) (rk := 3) 11 h (fun _ _ _ _ _ _ => trivial) (fun _ _ _ _ _ _ => trivial) (ht_tys cy) (by decide) rfl ⟨fx_an, fx_an, fx_an, fx_an, fx_an, fx_an⟩ d_X12_isIn km6_k
-- X12_isSlip 0 i
def km7_c : fx_C := ([.inr (.inr 1), .inl (-2147483648, 2147483647)], [], [(some (.inl (0, 0)), [.inr (.inr 1), .inl (-2147483648, 2147483647)], []), (some (.inl (1, 1)), [.inr (.inr 1), .inl (0, 4)], [])], [])
def km7_a : List fx_N := []
def km7_s : List fx_D := []
def km7_x : fx_X := ([], [(27, 12, 13), (274, 12, 34)], [], [], [], [(13, 359, 1000, km6_c)])
set_option maxRecDepth 100000 in
theorem km7_k : fx_chk TM 2 km7_c 3 km7_x t_X12_isSlip km7_a km7_s 13 = true := by decide +kernel
set_option maxRecDepth 100000 in
theorem km7 {l : Launch} {E : (Nat → Prop) → State → Prop} {ad : List Nat} {D : va_G} {cy : Nat → ClassId} (h : fx_env E D classes (tys cy) nestW) : fx_Met l yX12_isSlip (.code yX12_isSlip cX12_isSlip 2 (some .boolean) :: wsL_law) ({ frames := 1, cells := 0, slots := 0, locals := 22 }) E (gsM, TM, cy, fun _ => True) ad D classes km7_c :=
  fx_sound (x := km7_x) (tb := t_X12_isSlip) (an := km7_a) (sp := km7_s) (rk := 3) 13 h (fun _ _ _ _ _ _ => trivial) (fun _ _ _ _ _ _ => trivial) (ht_tys cy) (by decide) rfl ⟨fx_an, (fx_ac fl_X12_27 (fx_ac fl_X12_274 (fx_an))), fx_an, fx_an, fx_an, (fx_ac (ev_S (km6 h) ⟨by decide, by decide⟩ iS_X12_isIn g_X12_359) (fx_an))⟩ d_X12_isSlip km7_k
-- X12_longOf 0 i +
def km8_c : fx_C := ([.inr (.inr 1), .inl (0, 4)], [], [(some (.inl (0, 8)), [.inr (.inr 1), .inl (0, 4)], [])], [])
def km8_a : List fx_N := []
def km8_s : List fx_D := []
def km8_x : fx_X := ([], [(51, 12, 21), (274, 12, 34)], [], [], [], [])
set_option maxRecDepth 100000 in
theorem km8_k : fx_chk TM 2 km8_c 0 km8_x t_X12_longOf km8_a km8_s 15 = true := by decide +kernel
set_option maxRecDepth 100000 in
theorem km8 {l : Launch} {E : (Nat → Prop) → State → Prop} {ad : List Nat} {D : va_G} {cy : Nat → ClassId} (h : fx_env E D classes (tys cy) nestW) : fx_Met l yX12_longOf (.code yX12_longOf cX12_longOf 2 (some .int) :: wsL_law) ({ frames := 0, cells := 0, slots := 0, locals := 0 }) E (gsM, TM, cy, fun _ => True) ad D classes km8_c :=
  fx_sound (x := km8_x) (tb := t_X12_longOf) (an := km8_a) (sp := km8_s) (rk := 0) 15 h (fun _ _ _ _ _ _ => trivial) (fun _ _ _ _ _ _ => trivial) (ht_tys cy) (by decide) rfl ⟨fx_an, (fx_ac fl_X12_51 (fx_ac fl_X12_274 (fx_an))), fx_an, fx_an, fx_an, fx_an⟩ d_X12_longOf km8_k
-- X12_isIn i i i (-2147483648, 2147483647) (0, 0) (-1, 7)
def km9_c : fx_C := ([.inl (-2147483648, 2147483647), .inl (0, 0), .inl (-1, 7)], [], [(some (.inl (1, 1)), [.inl (0, 7), .inl (0, 0), .inl (0, 7)], []), (some (.inl (0, 0)), [.inl (-2147483648, 2147483647), .inl (0, 0), .inl (-1, 7)], [])], [])
def km9_a : List fx_N := []
def km9_s : List fx_D := []
def km9_x : fx_X := ([], [], [], [], [], [])
set_option maxRecDepth 100000 in
theorem km9_k : fx_chk TM 3 km9_c 3 km9_x t_X12_isIn km9_a km9_s 11 = true := by decide +kernel
set_option maxRecDepth 100000 in
theorem km9 {l : Launch} {E : (Nat → Prop) → State → Prop} {ad : List Nat} {D : va_G} {cy : Nat → ClassId} (h : fx_env E D classes (tys cy) nestW) : fx_Met l yX12_isIn (.code yX12_isIn cX12_isIn 3 (some .boolean) :: wsL_law) ({ frames := 0, cells := 0, slots := 0, locals := 0 }) E (gsM, TM, cy, fun _ => True) ad D classes km9_c :=
  fx_sound (x := km9_x) (tb := t_X12_isIn) (an := km9_a) (sp := km9_s) (rk := 3) 11 h (fun _ _ _ _ _ _ => trivial) (fun _ _ _ _ _ _ => trivial) (ht_tys cy) (by decide) rfl ⟨fx_an, fx_an, fx_an, fx_an, fx_an, fx_an⟩ d_X12_isIn km9_k
-- X12_wordOf 0 i i +
def km10_c : fx_C := ([.inr (.inr 1), .inl (0, 4), .inl (0, 7)], [], [(some (.inl (0, 8)), [.inr (.inr 1), .inl (0, 4), .inl (0, 7)], [])], [])
def km10_a : List fx_N := []
def km10_s : List fx_D := []
def km10_x : fx_X := ([], [(54, 12, 22), (274, 12, 34)], [], [], [], [])
set_option maxRecDepth 100000 in
theorem km10_k : fx_chk TM 3 km10_c 0 km10_x t_X12_wordOf km10_a km10_s 19 = true := by decide +kernel
set_option maxRecDepth 100000 in
theorem km10 {l : Launch} {E : (Nat → Prop) → State → Prop} {ad : List Nat} {D : va_G} {cy : Nat → ClassId} (h : fx_env E D classes (tys cy) nestW) : fx_Met l yX12_wordOf (.code yX12_wordOf cX12_wordOf 3 (some .int) :: wsL_law) ({ frames := 0, cells := 0, slots := 0, locals := 0 }) E (gsM, TM, cy, fun _ => True) ad D classes km10_c :=
  fx_sound (x := km10_x) (tb := t_X12_wordOf) (an := km10_a) (sp := km10_s) (rk := 0) 19 h (fun _ _ _ _ _ _ => trivial) (fun _ _ _ _ _ _ => trivial) (ht_tys cy) (by decide) rfl ⟨fx_an, (fx_ac fl_X12_54 (fx_ac fl_X12_274 (fx_an))), fx_an, fx_an, fx_an, fx_an⟩ d_X12_wordOf km10_k
-- X12_slip 0 i i
def km11_c : fx_C := ([.inr (.inr 1), .inl (-2147483648, 2147483647), .inl (-2147483648, 2147483647)], [], [(some (.inl (-1, -1)), [.inr (.inr 1), .inl (-2147483648, 2147483647), .inl (-2147483648, 2147483647)], []), (some (.inl (0, 8)), [.inr (.inr 1), .inl (0, 4), .inl (0, 7)], [])], [])
def km11_a : List fx_N := []
def km11_s : List fx_D := []
def km11_x : fx_X := ([], [], [], [], [], [(2, 363, 12, km7_c), (12, 381, 12, km8_c), (17, 359, 1000, km9_c), (26, 387, 12, km10_c)])
set_option maxRecDepth 100000 in
theorem km11_k : fx_chk TM 3 km11_c 0 km11_x t_X12_slip km11_a km11_s 21 = true := by decide +kernel
set_option maxRecDepth 100000 in
theorem km11 {l : Launch} {E : (Nat → Prop) → State → Prop} {ad : List Nat} {D : va_G} {cy : Nat → ClassId} (h : fx_env E D classes (tys cy) nestW) : fx_Met l yX12_slip (.code yX12_slip cX12_slip 3 (some .int) :: wsL_law) ({ frames := 2, cells := 0, slots := 0, locals := 43 }) E (gsM, TM, cy, fun _ => True) ad D classes km11_c :=
  fx_sound (x := km11_x) (tb := t_X12_slip) (an := km11_a) (sp := km11_s) (rk := 0) 21 h (fun _ _ _ _ _ _ => trivial) (fun _ _ _ _ _ _ => trivial) (ht_tys cy) (by decide) rfl ⟨fx_an, fx_an, fx_an, fx_an, fx_an, (fx_ac (ev_V (km7 h) (by decide) rfl ⟨by decide, by decide⟩ iV_X12_isSlip g_X12_363) (fx_ac (ev_V (km8 h) (by decide) rfl ⟨by decide, by decide⟩ iV_X12_longOf g_X12_381) (fx_ac (ev_S (km9 h) ⟨by decide, by decide⟩ iS_X12_isIn g_X12_359) (fx_ac (ev_V (km10 h) (by decide) rfl ⟨by decide, by decide⟩ iV_X12_wordOf g_X12_387) (fx_an)))))⟩ d_X12_slip km11_k
-- X12_isSlipOrRow 0 i
def km12_c : fx_C := ([.inr (.inr 1), .inl (-2147483648, 2147483647)], [], [(some (.inl (1, 1)), [.inr (.inr 1), .inl (0, 4)], []), (some (.inl (0, 0)), [.inr (.inr 1), .inl (-2147483648, 2147483647)], []), (some (.inl (1, 1)), [.inr (.inr 1), .inl (-1, -1)], [])], [])
def km12_a : List fx_N := []
def km12_s : List fx_D := []
def km12_x : fx_X := ([], [], [], [], [], [(7, 363, 12, km7_c)])
set_option maxRecDepth 100000 in
theorem km12_k : fx_chk TM 2 km12_c 3 km12_x t_X12_isSlipOrRow km12_a km12_s 12 = true := by decide +kernel
set_option maxRecDepth 100000 in
theorem km12 {l : Launch} {E : (Nat → Prop) → State → Prop} {ad : List Nat} {D : va_G} {cy : Nat → ClassId} (h : fx_env E D classes (tys cy) nestW) : fx_Met l yX12_isSlipOrRow (.code yX12_isSlipOrRow cX12_isSlipOrRow 2 (some .boolean) :: wsL_law) ({ frames := 2, cells := 0, slots := 0, locals := 43 }) E (gsM, TM, cy, fun _ => True) ad D classes km12_c :=
  fx_sound (x := km12_x) (tb := t_X12_isSlipOrRow) (an := km12_a) (sp := km12_s) (rk := 3) 12 h (fun _ _ _ _ _ _ => trivial) (fun _ _ _ _ _ _ => trivial) (ht_tys cy) (by decide) rfl ⟨fx_an, fx_an, fx_an, fx_an, fx_an, (fx_ac (ev_V (km7 h) (by decide) rfl ⟨by decide, by decide⟩ iV_X12_isSlip g_X12_363) (fx_an))⟩ d_X12_isSlipOrRow km12_k
-- X12_longOf 0 i -
def km13_c : fx_C := ([.inr (.inr 1), .inl (-1, -1)], [], [(some (.inl (0, 12)), [.inr (.inr 1), .inl (-1, -1)], [])], [])
def km13_a : List fx_N := []
def km13_s : List fx_D := []
def km13_x : fx_X := ([], [(92, 12, 41)], [], [], [], [])
set_option maxRecDepth 100000 in
theorem km13_k : fx_chk TM 2 km13_c 0 km13_x t_X12_longOf km13_a km13_s 11 = true := by decide +kernel
set_option maxRecDepth 100000 in
theorem km13 {l : Launch} {E : (Nat → Prop) → State → Prop} {ad : List Nat} {D : va_G} {cy : Nat → ClassId} (h : fx_env E D classes (tys cy) nestW) : fx_Met l yX12_longOf (.code yX12_longOf cX12_longOf 2 (some .int) :: wsL_law) ({ frames := 0, cells := 0, slots := 0, locals := 0 }) E (gsM, TM, cy, fun _ => True) ad D classes km13_c :=
  fx_sound (x := km13_x) (tb := t_X12_longOf) (an := km13_a) (sp := km13_s) (rk := 0) 11 h (fun _ _ _ _ _ _ => trivial) (fun _ _ _ _ _ _ => trivial) (ht_tys cy) (by decide) rfl ⟨fx_an, (fx_ac fl_X12_92 (fx_an)), fx_an, fx_an, fx_an, fx_an⟩ d_X12_longOf km13_k
-- X12_size 0 i
def km14_c : fx_C := ([.inr (.inr 1), .inl (-2147483648, 2147483647)], [], [(some (.inl (0, 12)), [.inr (.inr 1), .inl (-1, 4)], []), (some (.inl (-1, -1)), [.inr (.inr 1), .inl (-2147483648, 2147483647)], [])], [])
def km14_a : List fx_N := []
def km14_s : List fx_D := []
def km14_x : fx_X := ([], [], [], [], [], [(2, 396, 12, km12_c), (10, 381, 12, km13_c), (10, 381, 12, km8_c)])
set_option maxRecDepth 100000 in
theorem km14_k : fx_chk TM 2 km14_c 0 km14_x t_X12_size km14_a km14_s 11 = true := by decide +kernel
set_option maxRecDepth 100000 in
theorem km14 {l : Launch} {E : (Nat → Prop) → State → Prop} {ad : List Nat} {D : va_G} {cy : Nat → ClassId} (h : fx_env E D classes (tys cy) nestW) : fx_Met l yX12_size (.code yX12_size cX12_size 2 (some .int) :: wsL_law) ({ frames := 3, cells := 0, slots := 0, locals := 64 }) E (gsM, TM, cy, fun _ => True) ad D classes km14_c :=
  fx_sound (x := km14_x) (tb := t_X12_size) (an := km14_a) (sp := km14_s) (rk := 0) 11 h (fun _ _ _ _ _ _ => trivial) (fun _ _ _ _ _ _ => trivial) (ht_tys cy) (by decide) rfl ⟨fx_an, fx_an, fx_an, fx_an, fx_an, (fx_ac (ev_V (km12 h) (by decide) rfl ⟨by decide, by decide⟩ iV_X12_isSlipOrRow g_X12_396) (fx_ac (ev_V (km13 h) (by decide) rfl ⟨by decide, by decide⟩ iV_X12_longOf g_X12_381) (fx_ac (ev_V (km8 h) (by decide) rfl ⟨by decide, by decide⟩ iV_X12_longOf g_X12_381) (fx_an))))⟩ d_X12_size km14_k
-- X12_isIn i i i (-2147483648, 2147483647) (0, 0) (-1, 8)
def km15_c : fx_C := ([.inl (-2147483648, 2147483647), .inl (0, 0), .inl (-1, 8)], [], [(some (.inl (1, 1)), [.inl (0, 8), .inl (0, 0), .inl (0, 8)], []), (some (.inl (0, 0)), [.inl (-2147483648, 2147483647), .inl (0, 0), .inl (-1, 8)], [])], [])
def km15_a : List fx_N := []
def km15_s : List fx_D := []
def km15_x : fx_X := ([], [], [], [], [], [])
set_option maxRecDepth 100000 in
theorem km15_k : fx_chk TM 3 km15_c 3 km15_x t_X12_isIn km15_a km15_s 11 = true := by decide +kernel
set_option maxRecDepth 100000 in
theorem km15 {l : Launch} {E : (Nat → Prop) → State → Prop} {ad : List Nat} {D : va_G} {cy : Nat → ClassId} (h : fx_env E D classes (tys cy) nestW) : fx_Met l yX12_isIn (.code yX12_isIn cX12_isIn 3 (some .boolean) :: wsL_law) ({ frames := 0, cells := 0, slots := 0, locals := 0 }) E (gsM, TM, cy, fun _ => True) ad D classes km15_c :=
  fx_sound (x := km15_x) (tb := t_X12_isIn) (an := km15_a) (sp := km15_s) (rk := 3) 11 h (fun _ _ _ _ _ _ => trivial) (fun _ _ _ _ _ _ => trivial) (ht_tys cy) (by decide) rfl ⟨fx_an, fx_an, fx_an, fx_an, fx_an, fx_an⟩ d_X12_isIn km15_k
-- X12_isSaying 0 i
def km16_c : fx_C := ([.inr (.inr 1), .inl (-2147483648, 2147483647)], [], [(some (.inl (0, 0)), [.inr (.inr 1), .inl (-2147483648, 2147483647)], []), (some (.inl (1, 1)), [.inr (.inr 1), .inl (0, 8)], [])], [])
def km16_a : List fx_N := []
def km16_s : List fx_D := []
def km16_x : fx_X := ([], [(20, 12, 11), (274, 12, 34)], [], [], [], [(13, 359, 1000, km15_c)])
set_option maxRecDepth 100000 in
theorem km16_k : fx_chk TM 2 km16_c 3 km16_x t_X12_isSaying km16_a km16_s 13 = true := by decide +kernel
set_option maxRecDepth 100000 in
theorem km16 {l : Launch} {E : (Nat → Prop) → State → Prop} {ad : List Nat} {D : va_G} {cy : Nat → ClassId} (h : fx_env E D classes (tys cy) nestW) : fx_Met l yX12_isSaying (.code yX12_isSaying cX12_isSaying 2 (some .boolean) :: wsL_law) ({ frames := 1, cells := 0, slots := 0, locals := 22 }) E (gsM, TM, cy, fun _ => True) ad D classes km16_c :=
  fx_sound (x := km16_x) (tb := t_X12_isSaying) (an := km16_a) (sp := km16_s) (rk := 3) 13 h (fun _ _ _ _ _ _ => trivial) (fun _ _ _ _ _ _ => trivial) (ht_tys cy) (by decide) rfl ⟨fx_an, (fx_ac fl_X12_20 (fx_ac fl_X12_274 (fx_an))), fx_an, fx_an, fx_an, (fx_ac (ev_S (km15 h) ⟨by decide, by decide⟩ iS_X12_isIn g_X12_359) (fx_an))⟩ d_X12_isSaying km16_k
-- X12_worth 0 i
def km17_c : fx_C := ([.inr (.inr 1), .inl (-2147483648, 2147483647)], [], [(some (.inl (-2147483648, 2147483647)), [.inr (.inr 1), .inl (0, 8)], []), (some (.inl (-1, -1)), [.inr (.inr 1), .inl (-2147483648, 2147483647)], [])], [])
def km17_a : List fx_N := []
def km17_s : List fx_D := []
def km17_x : fx_X := ([], [(39, 12, 17), (274, 12, 34)], [], [], [], [(2, 399, 12, km16_c)])
set_option maxRecDepth 100000 in
theorem km17_k : fx_chk TM 2 km17_c 0 km17_x t_X12_worth km17_a km17_s 17 = true := by decide +kernel
set_option maxRecDepth 100000 in
theorem km17 {l : Launch} {E : (Nat → Prop) → State → Prop} {ad : List Nat} {D : va_G} {cy : Nat → ClassId} (h : fx_env E D classes (tys cy) nestW) : fx_Met l yX12_worth (.code yX12_worth cX12_worth 2 (some .int) :: wsL_law) ({ frames := 2, cells := 0, slots := 0, locals := 43 }) E (gsM, TM, cy, fun _ => True) ad D classes km17_c :=
  fx_sound (x := km17_x) (tb := t_X12_worth) (an := km17_a) (sp := km17_s) (rk := 0) 17 h (fun _ _ _ _ _ _ => trivial) (fun _ _ _ _ _ _ => trivial) (ht_tys cy) (by decide) rfl ⟨fx_an, (fx_ac fl_X12_39 (fx_ac fl_X12_274 (fx_an))), fx_an, fx_an, fx_an, (fx_ac (ev_V (km16 h) (by decide) rfl ⟨by decide, by decide⟩ iV_X12_isSaying g_X12_399) (fx_an))⟩ d_X12_worth km17_k
-- X12_besideTo 0 i i
def km18_c : fx_C := ([.inr (.inr 1), .inl (0, 8), .inl (0, 8)], [], [(some (.inl (-2147483648, 2147483647)), [.inr (.inr 1), .inl (0, 8), .inl (0, 8)], [])], [])
def km18_a : List fx_N := []
def km18_s : List fx_D := []
def km18_x : fx_X := ([], [(42, 12, 18), (274, 12, 34)], [], [], [], [])
set_option maxRecDepth 100000 in
theorem km18_k : fx_chk TM 3 km18_c 0 km18_x t_X12_besideTo km18_a km18_s 16 = true := by decide +kernel
set_option maxRecDepth 100000 in
theorem km18 {l : Launch} {E : (Nat → Prop) → State → Prop} {ad : List Nat} {D : va_G} {cy : Nat → ClassId} (h : fx_env E D classes (tys cy) nestW) : fx_Met l yX12_besideTo (.code yX12_besideTo cX12_besideTo 3 (some .int) :: wsL_law) ({ frames := 0, cells := 0, slots := 0, locals := 0 }) E (gsM, TM, cy, fun _ => True) ad D classes km18_c :=
  fx_sound (x := km18_x) (tb := t_X12_besideTo) (an := km18_a) (sp := km18_s) (rk := 0) 16 h (fun _ _ _ _ _ _ => trivial) (fun _ _ _ _ _ _ => trivial) (ht_tys cy) (by decide) rfl ⟨fx_an, (fx_ac fl_X12_42 (fx_ac fl_X12_274 (fx_an))), fx_an, fx_an, fx_an, fx_an⟩ d_X12_besideTo km18_k
-- X12_beside 0 i i
def km19_c : fx_C := ([.inr (.inr 1), .inl (-2147483648, 2147483647), .inl (-2147483648, 2147483647)], [], [(some (.inl (-2147483648, 2147483647)), [.inr (.inr 1), .inl (0, 8), .inl (0, 8)], []), (some (.inl (-1000000, -1000000)), [.inr (.inr 1), .inl (-2147483648, 2147483647), .inl (-2147483648, 2147483647)], [])], [])
def km19_a : List fx_N := []
def km19_s : List fx_D := []
def km19_x : fx_X := ([], [], [], [(402, -1000000)], [], [(2, 399, 12, km16_c), (10, 399, 12, km16_c), (19, 350, 12, km18_c)])
set_option maxRecDepth 100000 in
theorem km19_k : fx_chk TM 3 km19_c 0 km19_x t_X12_beside km19_a km19_s 16 = true := by decide +kernel
set_option maxRecDepth 100000 in
theorem km19 {l : Launch} {E : (Nat → Prop) → State → Prop} {ad : List Nat} {D : va_G} {cy : Nat → ClassId} (h : fx_env E D classes (tys cy) nestW) : fx_Met l yX12_beside (.code yX12_beside cX12_beside 3 (some .int) :: wsL_law) ({ frames := 2, cells := 0, slots := 0, locals := 43 }) E (gsM, TM, cy, fun _ => True) ad D classes km19_c :=
  fx_sound (x := km19_x) (tb := t_X12_beside) (an := km19_a) (sp := km19_s) (rk := 0) 16 h (fun _ _ _ _ _ _ => trivial) (fun _ _ _ _ _ _ => trivial) (ht_tys cy) (by decide) rfl ⟨fx_an, fx_an, fx_an, (fx_ac kc_X12_402 (fx_an)), fx_an, (fx_ac (ev_V (km16 h) (by decide) rfl ⟨by decide, by decide⟩ iV_X12_isSaying g_X12_399) (fx_ac (ev_V (km16 h) (by decide) rfl ⟨by decide, by decide⟩ iV_X12_isSaying g_X12_399) (fx_ac (ev_V (km18 h) (by decide) rfl ⟨by decide, by decide⟩ iV_X12_besideTo g_X12_350) (fx_an))))⟩ d_X12_beside km19_k
-- X12_wordOf 0 i i -
def km20_c : fx_C := ([.inr (.inr 1), .inl (-1, -1), .inl (0, 11)], [], [(some (.inl (0, 8)), [.inr (.inr 1), .inl (-1, -1), .inl (0, 11)], [])], [])
def km20_a : List fx_N := []
def km20_s : List fx_D := []
def km20_x : fx_X := ([], [(92, 12, 41)], [], [], [], [])
set_option maxRecDepth 100000 in
theorem km20_k : fx_chk TM 3 km20_c 0 km20_x t_X12_wordOf km20_a km20_s 13 = true := by decide +kernel
set_option maxRecDepth 100000 in
theorem km20 {l : Launch} {E : (Nat → Prop) → State → Prop} {ad : List Nat} {D : va_G} {cy : Nat → ClassId} (h : fx_env E D classes (tys cy) nestW) : fx_Met l yX12_wordOf (.code yX12_wordOf cX12_wordOf 3 (some .int) :: wsL_law) ({ frames := 0, cells := 0, slots := 0, locals := 0 }) E (gsM, TM, cy, fun _ => True) ad D classes km20_c :=
  fx_sound (x := km20_x) (tb := t_X12_wordOf) (an := km20_a) (sp := km20_s) (rk := 0) 13 h (fun _ _ _ _ _ _ => trivial) (fun _ _ _ _ _ _ => trivial) (ht_tys cy) (by decide) rfl ⟨fx_an, (fx_ac fl_X12_92 (fx_an)), fx_an, fx_an, fx_an, fx_an⟩ d_X12_wordOf km20_k
-- X12_layOne 0 i -
def km21_c : fx_C := ([.inr (.inr 1), .inl (-1, -1)], [], [(none, [.inr (.inr 1), .inl (-1, -1)], [])], [(12, 45), (1000, 43)])
def km21_a : List fx_N := [(11, [(0, .inr (.inr 1)), (1, .inl (-1, -1)), (2, .inl (0, 12))], [], [(0, 0), (1, 2), (0, 0)], [(0, 0), (1, 1)])]
def km21_s : List fx_D := []
def km21_x : fx_X := ([], [(95, 12, 42), (384, 12, 45)], [(384, 12, 45, 0)], [], [], [(3, 381, 12, km13_c), (27, 387, 12, km20_c)])
set_option maxRecDepth 100000 in
theorem km21_k : fx_chk TM 3 km21_c 9 km21_x t_X12_layOne km21_a km21_s 17 = true := by decide +kernel
set_option maxRecDepth 100000 in
theorem km21 {l : Launch} {E : (Nat → Prop) → State → Prop} {ad : List Nat} {D : va_G} {cy : Nat → ClassId} (h : fx_env E D classes (tys cy) nestW) : fx_Met l yX12_layOne (.code yX12_layOne cX12_layOne 3 none :: wsL_law) ({ frames := 1, cells := 0, slots := 0, locals := 22 }) E (gsM, TM, cy, fun _ => True) ad D classes km21_c :=
  fx_sound (x := km21_x) (tb := t_X12_layOne) (an := km21_a) (sp := km21_s) (rk := 9) 17 h (fun _ _ _ _ _ _ => trivial) (fun _ _ _ _ _ _ => trivial) (ht_tys cy) (by decide) rfl ⟨fx_an, (fx_ac fl_X12_95 (fx_ac fl_X12_384 (fx_an))), (fx_ac pl_X12_384 (fx_an)), fx_an, fx_an, (fx_ac (ev_V (km13 h) (by decide) rfl ⟨by decide, by decide⟩ iV_X12_longOf g_X12_381) (fx_ac (ev_V (km20 h) (by decide) rfl ⟨by decide, by decide⟩ iV_X12_wordOf g_X12_387) (fx_an)))⟩ d_X12_layOne km21_k
-- X12_senseOf 0 43 i
def km22_c : fx_C := ([.inr (.inr 1), .inr (.inr 44), .inl (0, 12)], [], [(some (.inl (-2147483648, 2147483647)), [.inr (.inr 1), .inr (.inr 44), .inl (0, 12)], [])], [])
def km22_a : List fx_N := [(5, [(0, .inr (.inr 1)), (1, .inr (.inr 44)), (2, .inl (0, 12)), (3, .inl (-2147483648, 2147483647)), (4, .inl (1, 12))], [], [(0, 0), (1, 4), (0, 0)], [(0, 0), (1, 1), (2, 2)])]
def km22_s : List fx_D := []
def km22_x : fx_X := ([], [], [], [], [], [(23, 350, 12, km18_c)])
set_option maxRecDepth 100000 in
theorem km22_k : fx_chk TM 5 km22_c 0 km22_x t_X12_senseOf km22_a km22_s 21 = true := by decide +kernel
set_option maxRecDepth 100000 in
theorem km22 {l : Launch} {E : (Nat → Prop) → State → Prop} {ad : List Nat} {D : va_G} {cy : Nat → ClassId} (h : fx_env E D classes (tys cy) nestW) : fx_Met l yX12_senseOf (.code yX12_senseOf cX12_senseOf 5 (some .int) :: wsL_law) ({ frames := 1, cells := 0, slots := 0, locals := 22 }) E (gsM, TM, cy, fun _ => True) ad D classes km22_c :=
  fx_sound (x := km22_x) (tb := t_X12_senseOf) (an := km22_a) (sp := km22_s) (rk := 0) 21 h (fun _ _ _ _ _ _ => trivial) (fun _ _ _ _ _ _ => trivial) (ht_tys cy) (by decide) rfl ⟨fx_an, fx_an, fx_an, fx_an, fx_an, (fx_ac (ev_V (km18 h) (by decide) rfl ⟨by decide, by decide⟩ iV_X12_besideTo g_X12_350) (fx_an))⟩ d_X12_senseOf km22_k
-- X12_layOne 0 i +
def km23_c : fx_C := ([.inr (.inr 1), .inl (0, 4)], [], [(none, [.inr (.inr 1), .inl (0, 4)], [((0, 45), .inl (0, 8))])], [(12, 45), (1000, 43)])
def km23_a : List fx_N := [(11, [(0, .inr (.inr 1)), (1, .inl (0, 4)), (2, .inl (0, 8))], [((0, 45), .inl (0, 8))], [(0, 0), (1, 2), (0, 0)], [(0, 0), (1, 1)])]
def km23_s : List fx_D := []
def km23_x : fx_X := ([], [(95, 12, 42), (384, 12, 45)], [(384, 12, 45, 0)], [], [], [(3, 381, 12, km8_c), (27, 387, 12, km10_c)])
set_option maxRecDepth 100000 in
theorem km23_k : fx_chk TM 3 km23_c 9 km23_x t_X12_layOne km23_a km23_s 17 = true := by decide +kernel
set_option maxRecDepth 100000 in
theorem km23 {l : Launch} {E : (Nat → Prop) → State → Prop} {ad : List Nat} {D : va_G} {cy : Nat → ClassId} (h : fx_env E D classes (tys cy) nestW) : fx_Met l yX12_layOne (.code yX12_layOne cX12_layOne 3 none :: wsL_law) ({ frames := 1, cells := 0, slots := 0, locals := 22 }) E (gsM, TM, cy, fun _ => True) ad D classes km23_c :=
  fx_sound (x := km23_x) (tb := t_X12_layOne) (an := km23_a) (sp := km23_s) (rk := 9) 17 h (fun _ _ _ _ _ _ => trivial) (fun _ _ _ _ _ _ => trivial) (ht_tys cy) (by decide) rfl ⟨fx_an, (fx_ac fl_X12_95 (fx_ac fl_X12_384 (fx_an))), (fx_ac pl_X12_384 (fx_an)), fx_an, fx_an, (fx_ac (ev_V (km8 h) (by decide) rfl ⟨by decide, by decide⟩ iV_X12_longOf g_X12_381) (fx_ac (ev_V (km10 h) (by decide) rfl ⟨by decide, by decide⟩ iV_X12_wordOf g_X12_387) (fx_an)))⟩ d_X12_layOne km23_k
-- X12_sense 0 i
def km24_c : fx_C := ([.inr (.inr 1), .inl (-2147483648, 2147483647)], [], [(some (.inl (-2147483648, 2147483647)), [.inr (.inr 1), .inl (-1, 4)], []), (some (.inl (-1000000, -1000000)), [.inr (.inr 1), .inl (-2147483648, 2147483647)], [])], [(12, 45), (1000, 43)])
def km24_a : List fx_N := []
def km24_s : List fx_D := []
def km24_x : fx_X := ([], [(95, 12, 42), (384, 12, 45)], [], [(402, -1000000)], [], [(2, 396, 12, km12_c), (14, 403, 12, km21_c), (14, 403, 12, km23_c), (26, 406, 12, km22_c)])
set_option maxRecDepth 100000 in
theorem km24_k : fx_chk TM 2 km24_c 0 km24_x t_X12_sense km24_a km24_s 16 = true := by decide +kernel
set_option maxRecDepth 100000 in
theorem km24 {l : Launch} {E : (Nat → Prop) → State → Prop} {ad : List Nat} {D : va_G} {cy : Nat → ClassId} (h : fx_env E D classes (tys cy) nestW) : fx_Met l yX12_sense (.code yX12_sense cX12_sense 2 (some .int) :: wsL_law) ({ frames := 3, cells := 0, slots := 0, locals := 64 }) E (gsM, TM, cy, fun _ => True) ad D classes km24_c :=
  fx_sound (x := km24_x) (tb := t_X12_sense) (an := km24_a) (sp := km24_s) (rk := 0) 16 h (fun _ _ _ _ _ _ => trivial) (fun _ _ _ _ _ _ => trivial) (ht_tys cy) (by decide) rfl ⟨fx_an, (fx_ac fl_X12_95 (fx_ac fl_X12_384 (fx_an))), fx_an, (fx_ac kc_X12_402 (fx_an)), fx_an, (fx_ac (ev_V (km12 h) (by decide) rfl ⟨by decide, by decide⟩ iV_X12_isSlipOrRow g_X12_396) (fx_ac (ev_V (km21 h) (by decide) rfl ⟨by decide, by decide⟩ iV_X12_layOne g_X12_403) (fx_ac (ev_V (km23 h) (by decide) rfl ⟨by decide, by decide⟩ iV_X12_layOne g_X12_403) (fx_ac (ev_V (km22 h) (by decide) rfl ⟨by decide, by decide⟩ iV_X12_senseOf g_X12_406) (fx_an)))))⟩ d_X12_sense km24_k
-- X12_reckoned 0
def km25_c : fx_C := ([.inr (.inr 1)], [], [(some (.inl (-2147483648, 2147483647)), [.inr (.inr 1)], [])], [(1000, 34)])
theorem km25 {l : Launch} {E : (Nat → Prop) → State → Prop} {ad : List Nat} {D : va_G} {cy : Nat → ClassId} (h : fx_env E D classes (tys cy) nestW) : fx_Met l yX12_reckoned (.code yX12_reckoned cX12_reckoned 4 (some .int) :: wsL_law) ({ frames := 0, cells := 0, slots := 0, locals := 0 }) E (gsM, TM, cy, IM) ad D classes km25_c := by
  sorry
-- X12_missOf 0 i
def km26_c : fx_C := ([.inr (.inr 1), .inl (0, 11)], [], [(some (.inl (-2147483648, 2147483647)), [.inr (.inr 1), .inl (0, 11)], [])], [(12, 40), (1000, 34)])
def km26_a : List fx_N := []
def km26_s : List fx_D := []
def km26_x : fx_X := ([], [(39, 12, 17), (67, 12, 26), (92, 12, 41), (274, 12, 34)], [(344, 12, 40, 0)], [], [], [(40, 378, 12, km25_c)])
set_option maxRecDepth 100000 in
theorem km26_k : fx_chk TM 2 km26_c 0 km26_x t_X12_missOf km26_a km26_s 23 = true := by decide +kernel
set_option maxRecDepth 100000 in
theorem km26 {l : Launch} {E : (Nat → Prop) → State → Prop} {ad : List Nat} {D : va_G} {cy : Nat → ClassId} (h : fx_env E D classes (tys cy) nestW) : fx_Met l yX12_missOf (.code yX12_missOf cX12_missOf 2 (some .int) :: wsL_law) ({ frames := 1, cells := 0, slots := 0, locals := 23 }) E (gsM, TM, cy, IM) ad D classes km26_c :=
  fx_sound (x := km26_x) (tb := t_X12_missOf) (an := km26_a) (sp := km26_s) (rk := 0) 23 h (im_frA (by decide +kernel)) (im_frF (by decide +kernel)) (ht_tys cy) (by decide) rfl ⟨fx_an, (fx_ac fl_X12_39 (fx_ac fl_X12_67 (fx_ac fl_X12_92 (fx_ac fl_X12_274 (fx_an))))), (fx_ac pl_X12_344 (fx_an)), fx_an, fx_an, (fx_ac (ev_V (km25 h) (by decide) rfl ⟨by decide, by decide⟩ iV_X12_reckoned g_X12_378) (fx_an))⟩ d_X12_missOf km26_k
theorem km4_i {l : Launch} {E : (Nat → Prop) → State → Prop} {ad : List Nat} {D : va_G} {cy : Nat → ClassId} (h : fx_env E D classes (tys cy) nestW) : fx_Met l yX12_isPlace (.code yX12_isPlace cX12_isPlace 2 (some .boolean) :: wsL_law) ({ frames := 1, cells := 0, slots := 0, locals := 22 }) E (gsM, TM, cy, IM) ad D classes km4_c := fx_lift (km4 h) (im_lift (by decide +kernel))
-- X12_miss 0 i
def km27_c : fx_C := ([.inr (.inr 1), .inl (-2147483648, 2147483647)], [], [(some (.inl (-2147483648, 2147483647)), [.inr (.inr 1), .inl (0, 11)], [((0, 41), .inr (.inr 43)), ((2, 12), .inl (1, 12))]), (some (.inl (-1000000, -1000000)), [.inr (.inr 1), .inl (-2147483648, 2147483647)], [])], [(12, 40), (1000, 34)])
def km27_a : List fx_N := []
def km27_s : List fx_D := []
def km27_x : fx_X := ([], [], [], [(402, -1000000)], [], [(2, 393, 12, km4_c), (10, 410, 12, km26_c)])
set_option maxRecDepth 100000 in
theorem km27_k : fx_chk TM 2 km27_c 0 km27_x t_X12_miss km27_a km27_s 11 = true := by decide +kernel
set_option maxRecDepth 100000 in
theorem km27 {l : Launch} {E : (Nat → Prop) → State → Prop} {ad : List Nat} {D : va_G} {cy : Nat → ClassId} (h : fx_env E D classes (tys cy) nestW) : fx_Met l yX12_miss (.code yX12_miss cX12_miss 2 (some .int) :: wsL_law) ({ frames := 2, cells := 0, slots := 0, locals := 44 }) E (gsM, TM, cy, IM) ad D classes km27_c :=
  fx_sound (x := km27_x) (tb := t_X12_miss) (an := km27_a) (sp := km27_s) (rk := 0) 11 h (im_frA (by decide +kernel)) (im_frF (by decide +kernel)) (ht_tys cy) (by decide) rfl ⟨fx_an, fx_an, fx_an, (fx_ac kc_X12_402 (fx_an)), fx_an, (fx_ac (ev_V (km4_i h) (by decide) rfl ⟨by decide, by decide⟩ iV_X12_isPlace g_X12_393) (fx_ac (ev_V (km26 h) (by decide) rfl ⟨by decide, by decide⟩ iV_X12_missOf g_X12_410) (fx_an)))⟩ d_X12_miss km27_k
-- X12_isIn i i i (-2147483648, 2147483647) (0, 0) (1, 1)
def km28_c : fx_C := ([.inl (-2147483648, 2147483647), .inl (0, 0), .inl (1, 1)], [], [(some (.inl (1, 1)), [.inl (0, 1), .inl (0, 0), .inl (1, 1)], []), (some (.inl (0, 0)), [.inl (-2147483648, 2147483647), .inl (0, 0), .inl (1, 1)], [])], [])
def km28_a : List fx_N := []
def km28_s : List fx_D := []
def km28_x : fx_X := ([], [], [], [], [], [])
set_option maxRecDepth 100000 in
theorem km28_k : fx_chk TM 3 km28_c 3 km28_x t_X12_isIn km28_a km28_s 11 = true := by decide +kernel
set_option maxRecDepth 100000 in
theorem km28 {l : Launch} {E : (Nat → Prop) → State → Prop} {ad : List Nat} {D : va_G} {cy : Nat → ClassId} (h : fx_env E D classes (tys cy) nestW) : fx_Met l yX12_isIn (.code yX12_isIn cX12_isIn 3 (some .boolean) :: wsL_law) ({ frames := 0, cells := 0, slots := 0, locals := 0 }) E (gsM, TM, cy, fun _ => True) ad D classes km28_c :=
  fx_sound (x := km28_x) (tb := t_X12_isIn) (an := km28_a) (sp := km28_s) (rk := 3) 11 h (fun _ _ _ _ _ _ => trivial) (fun _ _ _ _ _ _ => trivial) (ht_tys cy) (by decide) rfl ⟨fx_an, fx_an, fx_an, fx_an, fx_an, fx_an⟩ d_X12_isIn km28_k
-- X12_missedBy 0 i ('any',) *
def km29_c : fx_C := ([.inr (.inr 1), .inl (0, 1)], [((0, 41), .inr (.inr 43)), ((2, 12), .inl (0, 12))], [(some (.inl (-1, 11)), [.inr (.inr 1), .inl (0, 1)], [])], [(12, 40), (1000, 34)])
def km29_a : List fx_N := [(7, [(2, .inl (-1, -1)), (0, .inr (.inr 1)), (1, .inl (0, 1)), (3, .inl (0, 0)), (4, .inl (0, 0))], [], [(0, 2), (0, 0), (0, 0)], [(0, 1), (1, 2)]), (7, [(2, .inl (0, 0)), (0, .inr (.inr 1)), (1, .inl (0, 1)), (3, .inl (-2147483648, 2147483647)), (4, .inl (1, 12))], [((1, 41), .inr (.inr 43)), ((5, 12), .inl (1, 12))], [(0, 1), (1, 4), (0, 0)], [(0, 1), (1, 2)]), (7, [(2, .inl (1, 1)), (0, .inr (.inr 1)), (1, .inl (0, 1)), (3, .inl (-2147483648, 2147483647)), (4, .inl (2, 12))], [((1, 41), .inr (.inr 43)), ((5, 12), .inl (2, 12))], [(0, 3), (1, 4), (0, 0)], [(0, 1), (1, 2)]), (7, [(2, .inl (1, 11)), (0, .inr (.inr 1)), (1, .inl (0, 1)), (3, .inl (-2147483648, 2147483647)), (4, .inl (2, 12))], [((1, 41), .inr (.inr 43)), ((5, 12), .inl (2, 12))], [(0, 0), (1, 4), (0, 0)], [(0, 1), (1, 2)]), (7, [(2, .inl (2, 2)), (0, .inr (.inr 1)), (1, .inl (0, 1)), (3, .inl (-2147483648, 2147483647)), (4, .inl (3, 12))], [((1, 41), .inr (.inr 43)), ((5, 12), .inl (3, 12))], [(0, 4), (1, 4), (0, 0)], [(0, 1), (1, 2)]), (7, [(2, .inl (3, 3)), (0, .inr (.inr 1)), (1, .inl (0, 1)), (3, .inl (-2147483648, 2147483647)), (4, .inl (4, 12))], [((1, 41), .inr (.inr 43)), ((5, 12), .inl (4, 12))], [(0, 5), (1, 4), (0, 0)], [(0, 1), (1, 2)]), (7, [(2, .inl (4, 4)), (0, .inr (.inr 1)), (1, .inl (0, 1)), (3, .inl (-2147483648, 2147483647)), (4, .inl (5, 12))], [((1, 41), .inr (.inr 43)), ((5, 12), .inl (5, 12))], [(0, 6), (1, 4), (0, 0)], [(0, 1), (1, 2)]), (7, [(2, .inl (5, 5)), (0, .inr (.inr 1)), (1, .inl (0, 1)), (3, .inl (-2147483648, 2147483647)), (4, .inl (6, 12))], [((1, 41), .inr (.inr 43)), ((5, 12), .inl (6, 12))], [(0, 7), (1, 4), (0, 0)], [(0, 1), (1, 2)]), (7, [(2, .inl (6, 6)), (0, .inr (.inr 1)), (1, .inl (0, 1)), (3, .inl (-2147483648, 2147483647)), (4, .inl (7, 12))], [((1, 41), .inr (.inr 43)), ((5, 12), .inl (7, 12))], [(0, 8), (1, 4), (0, 0)], [(0, 1), (1, 2)]), (7, [(2, .inl (7, 7)), (0, .inr (.inr 1)), (1, .inl (0, 1)), (3, .inl (-2147483648, 2147483647)), (4, .inl (8, 12))], [((1, 41), .inr (.inr 43)), ((5, 12), .inl (8, 12))], [(0, 9), (1, 4), (0, 0)], [(0, 1), (1, 2)]), (7, [(2, .inl (8, 8)), (0, .inr (.inr 1)), (1, .inl (0, 1)), (3, .inl (-2147483648, 2147483647)), (4, .inl (9, 12))], [((1, 41), .inr (.inr 43)), ((5, 12), .inl (9, 12))], [(0, 10), (1, 4), (0, 0)], [(0, 1), (1, 2)]), (7, [(2, .inl (9, 9)), (0, .inr (.inr 1)), (1, .inl (0, 1)), (3, .inl (-2147483648, 2147483647)), (4, .inl (10, 12))], [((1, 41), .inr (.inr 43)), ((5, 12), .inl (10, 12))], [(0, 11), (1, 4), (0, 0)], [(0, 1), (1, 2)]), (7, [(2, .inl (10, 10)), (0, .inr (.inr 1)), (1, .inl (0, 1)), (3, .inl (-2147483648, 2147483647)), (4, .inl (11, 12))], [((1, 41), .inr (.inr 43)), ((5, 12), .inl (11, 12))], [(0, 13), (1, 4), (0, 0)], [(0, 1), (1, 2)]), (7, [(2, .inl (11, 11)), (0, .inr (.inr 1)), (1, .inl (0, 1)), (3, .inl (-2147483648, 2147483647)), (4, .inl (12, 12))], [((1, 41), .inr (.inr 43)), ((5, 12), .inl (12, 12))], [(0, 12), (0, 0), (0, 0)], [(0, 1), (1, 2)])]
def km29_s : List fx_D := []
def km29_x : fx_X := ([], [(92, 12, 41)], [], [], [], [(22, 410, 12, km26_c)])
set_option maxRecDepth 100000 in
theorem km29_k : fx_chk TM 6 km29_c 0 km29_x t_X12_missedBy km29_a km29_s 26 = true := by decide +kernel
set_option maxRecDepth 100000 in
theorem km29 {l : Launch} {E : (Nat → Prop) → State → Prop} {ad : List Nat} {D : va_G} {cy : Nat → ClassId} (h : fx_env E D classes (tys cy) nestW) : fx_Met l yX12_missedBy (.code yX12_missedBy cX12_missedBy 6 (some .int) :: wsL_law) ({ frames := 2, cells := 0, slots := 0, locals := 44 }) E (gsM, TM, cy, IM) ad D classes km29_c :=
  fx_sound (x := km29_x) (tb := t_X12_missedBy) (an := km29_a) (sp := km29_s) (rk := 0) 26 h (im_frA (by decide +kernel)) (im_frF (by decide +kernel)) (ht_tys cy) (by decide) rfl ⟨fx_an, (fx_ac fl_X12_92 (fx_an)), fx_an, fx_an, fx_an, (fx_ac (ev_V (km26 h) (by decide) rfl ⟨by decide, by decide⟩ iV_X12_missOf g_X12_410) (fx_an))⟩ d_X12_missedBy km29_k
theorem km28_i {l : Launch} {E : (Nat → Prop) → State → Prop} {ad : List Nat} {D : va_G} {cy : Nat → ClassId} (h : fx_env E D classes (tys cy) nestW) : fx_Met l yX12_isIn (.code yX12_isIn cX12_isIn 3 (some .boolean) :: wsL_law) ({ frames := 0, cells := 0, slots := 0, locals := 0 }) E (gsM, TM, cy, IM) ad D classes km28_c := fx_lift (km28 h) (im_lift (by decide +kernel))
-- X12_missed 0 i
def km30_c : fx_C := ([.inr (.inr 1), .inl (-2147483648, 2147483647)], [], [(some (.inl (-1, -1)), [.inr (.inr 1), .inl (-2147483648, 2147483647)], []), (some (.inl (-1, 11)), [.inr (.inr 1), .inl (0, 1)], [])], [(12, 40), (1000, 34)])
def km30_a : List fx_N := []
def km30_s : List fx_D := []
def km30_x : fx_X := ([], [], [], [], [], [(3, 359, 1000, km28_c), (11, 413, 12, km29_c)])
set_option maxRecDepth 100000 in
theorem km30_k : fx_chk TM 2 km30_c 0 km30_x t_X12_missed km30_a km30_s 12 = true := by decide +kernel
set_option maxRecDepth 100000 in
theorem km30 {l : Launch} {E : (Nat → Prop) → State → Prop} {ad : List Nat} {D : va_G} {cy : Nat → ClassId} (h : fx_env E D classes (tys cy) nestW) : fx_Met l yX12_missed (.code yX12_missed cX12_missed 2 (some .int) :: wsL_law) ({ frames := 3, cells := 0, slots := 0, locals := 69 }) E (gsM, TM, cy, IM) ad D classes km30_c :=
  fx_sound (x := km30_x) (tb := t_X12_missed) (an := km30_a) (sp := km30_s) (rk := 0) 12 h (im_frA (by decide +kernel)) (im_frF (by decide +kernel)) (ht_tys cy) (by decide) rfl ⟨fx_an, fx_an, fx_an, fx_an, fx_an, (fx_ac (ev_S (km28_i h) ⟨by decide, by decide⟩ iS_X12_isIn g_X12_359) (fx_ac (ev_V (km29 h) (by decide) rfl ⟨by decide, by decide⟩ iV_X12_missedBy g_X12_413) (fx_an)))⟩ d_X12_missed km30_k
-- X12_lacks 0 i
def km31_c : fx_C := ([.inr (.inr 1), .inl (-2147483648, 2147483647)], [], [(some (.inl (-1, -1)), [.inr (.inr 1), .inl (-2147483648, 2147483647)], []), (some (.inl (0, 4095)), [.inr (.inr 1), .inl (0, 4)], [])], [])
def km31_a : List fx_N := [(14, [(0, .inr (.inr 1)), (1, .inl (0, 4)), (2, .inl (0, 4095)), (3, .inl (0, 12))], [], [(0, 1), (1, 3), (0, 0)], [(0, 0), (1, 1)]), (46, [(0, .inr (.inr 1)), (1, .inl (0, 4)), (2, .inl (0, 4095)), (3, .inl (0, 8))], [], [(0, 0), (1, 3), (0, 0)], [(0, 0), (1, 1)])]
def km31_s : List fx_D := []
def km31_x : fx_X := ([], [(92, 12, 41)], [], [], [], [(2, 363, 12, km7_c), (49, 381, 12, km8_c), (60, 387, 12, km10_c)])
set_option maxRecDepth 100000 in
theorem km31_k : fx_chk TM 4 km31_c 0 km31_x t_X12_lacks km31_a km31_s 22 = true := by decide +kernel
set_option maxRecDepth 100000 in
theorem km31 {l : Launch} {E : (Nat → Prop) → State → Prop} {ad : List Nat} {D : va_G} {cy : Nat → ClassId} (h : fx_env E D classes (tys cy) nestW) : fx_Met l yX12_lacks (.code yX12_lacks cX12_lacks 4 (some .int) :: wsL_law) ({ frames := 2, cells := 0, slots := 0, locals := 43 }) E (gsM, TM, cy, fun _ => True) ad D classes km31_c :=
  fx_sound (x := km31_x) (tb := t_X12_lacks) (an := km31_a) (sp := km31_s) (rk := 0) 22 h (fun _ _ _ _ _ _ => trivial) (fun _ _ _ _ _ _ => trivial) (ht_tys cy) (by decide) rfl ⟨fx_an, (fx_ac fl_X12_92 (fx_an)), fx_an, fx_an, fx_an, (fx_ac (ev_V (km7 h) (by decide) rfl ⟨by decide, by decide⟩ iV_X12_isSlip g_X12_363) (fx_ac (ev_V (km8 h) (by decide) rfl ⟨by decide, by decide⟩ iV_X12_longOf g_X12_381) (fx_ac (ev_V (km10 h) (by decide) rfl ⟨by decide, by decide⟩ iV_X12_wordOf g_X12_387) (fx_an))))⟩ d_X12_lacks km31_k
-- X12_isRule i
def km32_c : fx_C := ([.inl (-2147483648, 2147483647)], [], [(some (.inl (1, 1)), [.inl (0, 2)], []), (some (.inl (0, 0)), [.inl (-2147483648, 2147483647)], [])], [])
def km32_a : List fx_N := []
def km32_s : List fx_D := []
def km32_x : fx_X := ([], [], [], [], [], [])
set_option maxRecDepth 100000 in
theorem km32_k : fx_chk TM 1 km32_c 3 km32_x t_X12_isRule km32_a km32_s 10 = true := by decide +kernel
set_option maxRecDepth 100000 in
theorem km32 {l : Launch} {E : (Nat → Prop) → State → Prop} {ad : List Nat} {D : va_G} {cy : Nat → ClassId} (h : fx_env E D classes (tys cy) nestW) : fx_Met l yX12_isRule (.code yX12_isRule cX12_isRule 1 (some .boolean) :: wsL_law) ({ frames := 0, cells := 0, slots := 0, locals := 0 }) E (gsM, TM, cy, fun _ => True) ad D classes km32_c :=
  fx_sound (x := km32_x) (tb := t_X12_isRule) (an := km32_a) (sp := km32_s) (rk := 3) 10 h (fun _ _ _ _ _ _ => trivial) (fun _ _ _ _ _ _ => trivial) (ht_tys cy) (by decide) rfl ⟨fx_an, fx_an, fx_an, fx_an, fx_an, fx_an⟩ d_X12_isRule km32_k
-- X12_keepAct 0
def km33_c : fx_C := ([.inr (.inr 1)], [], [(none, [.inr (.inr 1)], [((0, 49), .inl (1, 40)), ((0, 50), .inl (0, 0))])], [(12, 49), (12, 50), (1000, 49)])
theorem km33 {l : Launch} {E : (Nat → Prop) → State → Prop} {ad : List Nat} {D : va_G} {cy : Nat → ClassId} (h : fx_env E D classes (tys cy) nestW) : fx_Met l yX12_keepAct (.code yX12_keepAct cX12_keepAct 2 none :: wsL_law) ({ frames := 0, cells := 0, slots := 0, locals := 0 }) E (gsM, TM, cy, fun _ => True) ad D classes km33_c := by
  sorry
