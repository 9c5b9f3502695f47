-- X12_readBeside 0
def km309_c : fx_C := ([.inr (.inr 1)], [((0, 7), .inl (0, 1600))], [(none, [.inr (.inr 1)], [((0, 7), .inl (0, 1600))])], [(12, 4), (12, 5), (12, 6), (12, 7), (12, 8), (12, 9), (12, 10), (1000, 4), (1000, 10), (1000, 11)])
def km309_a : List fx_N := []
def km309_s : List fx_D := []
def km309_x : fx_X := ([], [(24, 12, 12), (42, 12, 18), (45, 12, 19), (206, 12, 6), (265, 12, 35)], [], [], [], [(9, 297, 12, km305_c), (12, 305, 12, km297_c), (18, 241, 12, km293_c), (26, 297, 12, km305_c), (54, 237, 12, km294_c), (59, 305, 12, km297_c), (64, 308, 12, km303_c), (69, 241, 12, km293_c)])
set_option maxRecDepth 100000 in
theorem km309_k : fx_chk TM 4 km309_c 9 km309_x t_X12_readBeside km309_a km309_s 74 = true := by decide +kernel
set_option maxRecDepth 100000 in
theorem km309 {l : Launch} {E : (Nat → Prop) → State → Prop} {ad : List Nat} {D : va_G} {cy : Nat → ClassId} (h : fx_env E D classes (tys cy) nestW) : fx_Met l yX12_readBeside (.code yX12_readBeside cX12_readBeside 4 none :: wsL_law) ({ frames := 3, cells := 0, slots := 0, locals := 67 }) E (gsM, TM, cy, fun _ => True) ad D classes km309_c :=
  fx_sound (x := km309_x) (tb := t_X12_readBeside) (an := km309_a) (sp := km309_s) (rk := 9) 74 h (fun _ _ _ _ _ _ => trivial) (fun _ _ _ _ _ _ => trivial) (ht_tys cy) (by decide) rfl ⟨fx_an, (fx_ac fl_X12_24 (fx_ac fl_X12_42 (fx_ac fl_X12_45 (fx_ac fl_X12_206 (fx_ac fl_X12_265 (fx_an)))))), fx_an, fx_an, fx_an, (fx_ac (ev_V (km305 h) (by decide) rfl ⟨by decide, by decide⟩ iV_X12_wordNamed g_X12_297) (fx_ac (ev_V (km297 h) (by decide) rfl ⟨by decide, by decide⟩ iV_X12_known g_X12_305) (fx_ac (ev_V (km293 h) (by decide) rfl ⟨by decide, by decide⟩ iV_X12_isGood g_X12_241) (fx_ac (ev_V (km305 h) (by decide) rfl ⟨by decide, by decide⟩ iV_X12_wordNamed g_X12_297) (fx_ac (ev_V (km294 h) (by decide) rfl ⟨by decide, by decide⟩ iV_X12_fails g_X12_237) (fx_ac (ev_V (km297 h) (by decide) rfl ⟨by decide, by decide⟩ iV_X12_known g_X12_305) (fx_ac (ev_V (km303 h) (by decide) rfl ⟨by decide, by decide⟩ iV_X12_signed g_X12_308) (fx_ac (ev_V (km293 h) (by decide) rfl ⟨by decide, by decide⟩ iV_X12_isGood g_X12_241) (fx_an)))))))))⟩ d_X12_readBeside km309_k
-- X12_isFull 0
def km310_c : fx_C := ([.inr (.inr 1)], [], [(some (.inl (1, 1)), [.inr (.inr 1)], []), (some (.inl (0, 0)), [.inr (.inr 1)], [((0, 8), .inl (3, 3))]), (some (.inl (0, 1)), [.inr (.inr 1)], [((0, 8), .inl (3, 3))])], [])
def km310_a : List fx_N := []
def km310_s : List fx_D := []
def km310_x : fx_X := ([], [(20, 12, 11), (24, 12, 12), (27, 12, 13), (63, 12, 25), (67, 12, 26), (70, 12, 27), (265, 12, 35)], [], [], [(173, 2003792484), (177, 108187867505765), (179, 7499639), (181, 1936484720), (183, 1835627379), (185, 1685217655)], [(4, 251, 12, km299_c), (34, 251, 12, km299_c), (64, 251, 12, km299_c), (84, 251, 12, km299_c), (113, 251, 12, km299_c), (133, 251, 12, km299_c)])
set_option maxRecDepth 100000 in
theorem km310_k : fx_chk TM 1 km310_c 3 km310_x t_X12_isFull km310_a km310_s 35 = true := by decide +kernel
set_option maxRecDepth 100000 in
theorem km310 {l : Launch} {E : (Nat → Prop) → State → Prop} {ad : List Nat} {D : va_G} {cy : Nat → ClassId} (h : fx_env E D classes (tys cy) nestW) : fx_Met l yX12_isFull (.code yX12_isFull cX12_isFull 1 (some .boolean) :: wsL_law) ({ frames := 1, cells := 0, slots := 0, locals := 22 }) E (gsM, TM, cy, fun _ => True) ad D classes km310_c :=
  fx_sound (x := km310_x) (tb := t_X12_isFull) (an := km310_a) (sp := km310_s) (rk := 3) 35 h (fun _ _ _ _ _ _ => trivial) (fun _ _ _ _ _ _ => trivial) (ht_tys cy) (by decide) rfl ⟨fx_an, (fx_ac fl_X12_20 (fx_ac fl_X12_24 (fx_ac fl_X12_27 (fx_ac fl_X12_63 (fx_ac fl_X12_67 (fx_ac fl_X12_70 (fx_ac fl_X12_265 (fx_an)))))))), fx_an, fx_an, (fx_ac kc_X12_173 (fx_ac kc_X12_177 (fx_ac kc_X12_179 (fx_ac kc_X12_181 (fx_ac kc_X12_183 (fx_ac kc_X12_185 (fx_an))))))), (fx_ac (ev_V (km299 h) (by decide) rfl ⟨by decide, by decide⟩ iV_X12_isWord g_X12_251) (fx_ac (ev_V (km299 h) (by decide) rfl ⟨by decide, by decide⟩ iV_X12_isWord g_X12_251) (fx_ac (ev_V (km299 h) (by decide) rfl ⟨by decide, by decide⟩ iV_X12_isWord g_X12_251) (fx_ac (ev_V (km299 h) (by decide) rfl ⟨by decide, by decide⟩ iV_X12_isWord g_X12_251) (fx_ac (ev_V (km299 h) (by decide) rfl ⟨by decide, by decide⟩ iV_X12_isWord g_X12_251) (fx_ac (ev_V (km299 h) (by decide) rfl ⟨by decide, by decide⟩ iV_X12_isWord g_X12_251) (fx_an)))))))⟩ d_X12_isFull km310_k
-- X12_startAnew 0
def km311_c : fx_C := ([.inr (.inr 1)], [], [(none, [.inr (.inr 1)], [((0, 49), .inl (0, 0)), ((0, 50), .inl (0, 0)), ((0, 55), .inl (0, 0)), ((0, 69), .inl (0, 0))])], [(12, 49), (12, 50), (12, 55), (12, 69), (1000, 26), (1000, 48)])
def km311_a : List fx_N := [(2, [(0, .inr (.inr 1)), (1, .inl (0, 15))], [], [(0, 2), (1, 1), (0, 0)], [(0, 0)]), (23, [(0, .inr (.inr 1)), (1, .inl (0, 12))], [], [(0, 1), (1, 1), (0, 0)], [(0, 0)]), (118, [(0, .inr (.inr 1)), (1, .inl (0, 3))], [((0, 49), .inl (0, 0)), ((0, 50), .inl (0, 0)), ((0, 55), .inl (0, 0)), ((0, 69), .inl (0, 0))], [(0, 0), (1, 1), (0, 0)], [(0, 0)])]
def km311_s : List fx_D := []
def km311_x : fx_X := ([], [(33, 12, 15), (36, 12, 16), (48, 12, 20), (92, 12, 41), (158, 12, 73), (274, 12, 34)], [(366, 12, 49, 0), (369, 12, 50, 0), (372, 12, 69, 0), (375, 12, 55, 0)], [], [], [])
set_option maxRecDepth 100000 in
theorem km311_k : fx_chk TM 2 km311_c 9 km311_x t_X12_startAnew km311_a km311_s 42 = true := by decide +kernel
set_option maxRecDepth 100000 in
theorem km311 {l : Launch} {E : (Nat → Prop) → State → Prop} {ad : List Nat} {D : va_G} {cy : Nat → ClassId} (h : fx_env E D classes (tys cy) nestW) : fx_Met l yX12_startAnew (.code yX12_startAnew cX12_startAnew 2 none :: wsL_law) ({ frames := 0, cells := 0, slots := 0, locals := 0 }) E (gsM, TM, cy, fun _ => True) ad D classes km311_c :=
  fx_sound (x := km311_x) (tb := t_X12_startAnew) (an := km311_a) (sp := km311_s) (rk := 9) 42 h (fun _ _ _ _ _ _ => trivial) (fun _ _ _ _ _ _ => trivial) (ht_tys cy) (by decide) rfl ⟨fx_an, (fx_ac fl_X12_33 (fx_ac fl_X12_36 (fx_ac fl_X12_48 (fx_ac fl_X12_92 (fx_ac fl_X12_158 (fx_ac fl_X12_274 (fx_an))))))), (fx_ac pl_X12_366 (fx_ac pl_X12_369 (fx_ac pl_X12_372 (fx_ac pl_X12_375 (fx_an))))), fx_an, fx_an, fx_an⟩ d_X12_startAnew km311_k
-- X12_choices i i ('c', 5)
def km312_c : fx_C := ([.inl (5, 12), .inl (5, 5)], [], [(some (.inl (1, 792)), [.inl (5, 12), .inl (5, 5)], [])], [])
def km312_a : List fx_N := [(4, [(3, .inl (1, 1)), (0, .inl (5, 12)), (1, .inl (5, 5)), (2, .inl (1, 1))], [], [(0, 5)], [(0, 1), (1, 2)]), (4, [(3, .inl (2, 2)), (0, .inl (5, 12)), (1, .inl (5, 5)), (2, .inl (5, 12))], [], [(0, 4)], [(0, 1), (1, 2)]), (4, [(3, .inl (3, 3)), (0, .inl (5, 12)), (1, .inl (5, 5)), (2, .inl (10, 66))], [], [(0, 3)], [(0, 1), (1, 2)]), (4, [(3, .inl (4, 4)), (0, .inl (5, 12)), (1, .inl (5, 5)), (2, .inl (10, 220))], [], [(0, 2)], [(0, 1), (1, 2)]), (4, [(3, .inl (5, 5)), (0, .inl (5, 12)), (1, .inl (5, 5)), (2, .inl (5, 495))], [], [(0, 1)], [(0, 1), (1, 2)]), (4, [(3, .inl (6, 6)), (0, .inl (5, 12)), (1, .inl (5, 5)), (2, .inl (1, 792))], [], [(0, 0)], [(0, 1), (1, 2)])]
def km312_s : List fx_D := []
def km312_x : fx_X := ([], [], [], [], [], [])
set_option maxRecDepth 100000 in
theorem km312_k : fx_chk TM 4 km312_c 0 km312_x t_X12_choices km312_a km312_s 18 = true := by decide +kernel
set_option maxRecDepth 100000 in
theorem km312 {l : Launch} {E : (Nat → Prop) → State → Prop} {ad : List Nat} {D : va_G} {cy : Nat → ClassId} (h : fx_env E D classes (tys cy) nestW) : fx_Met l yX12_choices (.code yX12_choices cX12_choices 4 (some .int) :: wsL_law) ({ frames := 0, cells := 0, slots := 0, locals := 0 }) E (gsM, TM, cy, fun _ => True) ad D classes km312_c :=
  fx_sound (x := km312_x) (tb := t_X12_choices) (an := km312_a) (sp := km312_s) (rk := 0) 18 h (fun _ _ _ _ _ _ => trivial) (fun _ _ _ _ _ _ => trivial) (ht_tys cy) (by decide) rfl ⟨fx_an, fx_an, fx_an, fx_an, fx_an, fx_an⟩ d_X12_choices km312_k
