-- X12_isKept l
def km291_c : fx_C := ([.inr (.inl (-9223372036854775808, 9223372036854775807))], [], [(some (.inl (0, 0)), [.inr (.inl (-9223372036854775808, 9223372036854775807))], []), (some (.inl (1, 1)), [.inr (.inl (-9223372036854775808, 9223372036854775807))], [])], [])
def km291_a : List fx_N := []
def km291_s : List fx_D := []
def km291_x : fx_X := ([], [], [], [], [(173, 2003792484), (175, 512970880104), (177, 108187867505765), (179, 7499639), (181, 1936484720), (183, 1835627379), (185, 1685217655), (187, 482854658917), (189, 1936292453), (191, 499984983411), (193, 1818584692), (195, 491394656372), (197, 28530), (199, 6385252), (201, 7237492)], [])
set_option maxRecDepth 100000 in
theorem km291_k : fx_chk TM 3 km291_c 3 km291_x t_X12_isKept km291_a km291_s 69 = true := by decide +kernel
set_option maxRecDepth 100000 in
theorem km291 {l : Launch} {E : (Nat → Prop) → State → Prop} {ad : List Nat} {D : va_G} {cy : Nat → ClassId} (h : fx_env E D classes (tys cy) nestW) : fx_Met l yX12_isKept (.code yX12_isKept cX12_isKept 3 (some .boolean) :: wsL_law) ({ frames := 0, cells := 0, slots := 0, locals := 0 }) E (gsM, TM, cy, fun _ => True) ad D classes km291_c :=
  fx_sound (x := km291_x) (tb := t_X12_isKept) (an := km291_a) (sp := km291_s) (rk := 3) 69 h (fun _ _ _ _ _ _ => trivial) (fun _ _ _ _ _ _ => trivial) (ht_tys cy) (by decide) rfl ⟨fx_an, fx_an, fx_an, fx_an, (fx_ac kc_X12_173 (fx_ac kc_X12_175 (fx_ac kc_X12_177 (fx_ac kc_X12_179 (fx_ac kc_X12_181 (fx_ac kc_X12_183 (fx_ac kc_X12_185 (fx_ac kc_X12_187 (fx_ac kc_X12_189 (fx_ac kc_X12_191 (fx_ac kc_X12_193 (fx_ac kc_X12_195 (fx_ac kc_X12_197 (fx_ac kc_X12_199 (fx_ac kc_X12_201 (fx_an)))))))))))))))), fx_an⟩ d_X12_isKept km291_k
-- X12_goOn 0
def km292_c : fx_C := ([.inr (.inr 1)], [((0, 7), .inl (0, 1600))], [(none, [.inr (.inr 1)], [((0, 7), .inl (0, 1600)), ((0, 8), .inl (0, 5))])], [(12, 6), (12, 7), (12, 8), (12, 9), (12, 10)])
def km292_a : List fx_N := [(8, [(0, .inr (.inr 1))], [((0, 6), .inl (0, 1600)), ((0, 7), .inl (0, 1600))], [(0, 3), (1, 1), (0, 0)], [(0, 0)]), (119, [(0, .inr (.inr 1))], [((0, 3), .inl (1, 1600)), ((0, 6), .inl (0, 1599)), ((0, 7), .inl (1, 1600))], [(0, 2), (1, 3), (0, 0)], [(0, 0)]), (156, [(0, .inr (.inr 1)), (2, .inl (0, 1600))], [((0, 3), .inl (1, 1600)), ((0, 6), .inl (0, 1599)), ((0, 7), .inl (1, 1600))], [(0, 1), (1, 1), (0, 0)], [(0, 0)]), (259, [(0, .inr (.inr 1))], [((0, 3), .inl (1, 1600)), ((0, 6), .inl (0, 1599)), ((0, 7), .inl (0, 1600))], [(0, 0), (1, 3), (0, 0)], [(0, 0)])]
def km292_s : List fx_D := []
def km292_x : fx_X := ([], [(167, 12, 3), (203, 12, 7), (206, 12, 6), (220, 12, 10), (231, 12, 9)], [(203, 12, 7, 0), (206, 12, 6, 0), (213, 12, 8, 0), (220, 12, 10, 1), (231, 12, 9, 0)], [], [], [(24, 209, 12, km287_c), (37, 209, 12, km287_c), (63, 209, 12, km287_c), (113, 216, 1000, km288_c), (124, 209, 12, km287_c), (127, 216, 1000, km288_c), (185, 209, 12, km287_c), (222, 224, 1000, km291_c), (240, 228, 1000, km289_c), (264, 209, 12, km287_c), (267, 228, 1000, km289_c), (299, 209, 12, km287_c), (341, 209, 12, km287_c), (344, 216, 1000, km288_c), (363, 234, 1000, km290_c)])
set_option maxRecDepth 100000 in
theorem km292_k : fx_chk TM 3 km292_c 9 km292_x t_X12_goOn km292_a km292_s 49 = true := by decide +kernel
set_option maxRecDepth 100000 in
theorem km292 {l : Launch} {E : (Nat → Prop) → State → Prop} {ad : List Nat} {D : va_G} {cy : Nat → ClassId} (h : fx_env E D classes (tys cy) nestW) : fx_Met l yX12_goOn (.code yX12_goOn cX12_goOn 3 none :: wsL_law) ({ frames := 1, cells := 0, slots := 0, locals := 22 }) E (gsM, TM, cy, fun _ => True) ad D classes km292_c :=
  fx_sound (x := km292_x) (tb := t_X12_goOn) (an := km292_a) (sp := km292_s) (rk := 9) 49 h (fun _ _ _ _ _ _ => trivial) (fun _ _ _ _ _ _ => trivial) (ht_tys cy) (by decide) rfl ⟨fx_an, (fx_ac fl_X12_167 (fx_ac fl_X12_203 (fx_ac fl_X12_206 (fx_ac fl_X12_220 (fx_ac fl_X12_231 (fx_an)))))), (fx_ac pl_X12_203 (fx_ac pl_X12_206 (fx_ac pl_X12_213 (fx_ac pl_X12_220 (fx_ac pl_X12_231 (fx_an)))))), fx_an, fx_an, (fx_ac (ev_V (km287 h) (by decide) rfl ⟨by decide, by decide⟩ iV_X12_sign g_X12_209) (fx_ac (ev_V (km287 h) (by decide) rfl ⟨by decide, by decide⟩ iV_X12_sign g_X12_209) (fx_ac (ev_V (km287 h) (by decide) rfl ⟨by decide, by decide⟩ iV_X12_sign g_X12_209) (fx_ac (ev_S (km288 h) ⟨by decide, by decide⟩ iS_X12_isLetter g_X12_216) (fx_ac (ev_V (km287 h) (by decide) rfl ⟨by decide, by decide⟩ iV_X12_sign g_X12_209) (fx_ac (ev_S (km288 h) ⟨by decide, by decide⟩ iS_X12_isLetter g_X12_216) (fx_ac (ev_V (km287 h) (by decide) rfl ⟨by decide, by decide⟩ iV_X12_sign g_X12_209) (fx_ac (ev_S (km291 h) ⟨by decide, by decide⟩ iS_X12_isKept g_X12_224) (fx_ac (ev_S (km289 h) ⟨by decide, by decide⟩ iS_X12_isDigit g_X12_228) (fx_ac (ev_V (km287 h) (by decide) rfl ⟨by decide, by decide⟩ iV_X12_sign g_X12_209) (fx_ac (ev_S (km289 h) ⟨by decide, by decide⟩ iS_X12_isDigit g_X12_228) (fx_ac (ev_V (km287 h) (by decide) rfl ⟨by decide, by decide⟩ iV_X12_sign g_X12_209) (fx_ac (ev_V (km287 h) (by decide) rfl ⟨by decide, by decide⟩ iV_X12_sign g_X12_209) (fx_ac (ev_S (km288 h) ⟨by decide, by decide⟩ iS_X12_isLetter g_X12_216) (fx_ac (ev_S (km290 h) ⟨by decide, by decide⟩ iS_X12_isSign g_X12_234) (fx_an))))))))))))))))⟩ d_X12_goOn km292_k
-- X12_isGood 0
def km293_c : fx_C := ([.inr (.inr 1)], [], [(some (.inl (1, 1)), [.inr (.inr 1)], [((0, 4), .inl (0, 0))]), (some (.inl (0, 0)), [.inr (.inr 1)], [((0, 4), .inl (1, 5))])], [])
def km293_a : List fx_N := []
def km293_s : List fx_D := []
def km293_x : fx_X := ([], [(170, 12, 4)], [], [], [], [])
set_option maxRecDepth 100000 in
theorem km293_k : fx_chk TM 1 km293_c 3 km293_x t_X12_isGood km293_a km293_s 8 = true := by decide +kernel
set_option maxRecDepth 100000 in
theorem km293 {l : Launch} {E : (Nat → Prop) → State → Prop} {ad : List Nat} {D : va_G} {cy : Nat → ClassId} (h : fx_env E D classes (tys cy) nestW) : fx_Met l yX12_isGood (.code yX12_isGood cX12_isGood 1 (some .boolean) :: wsL_law) ({ frames := 0, cells := 0, slots := 0, locals := 0 }) E (gsM, TM, cy, fun _ => True) ad D classes km293_c :=
  fx_sound (x := km293_x) (tb := t_X12_isGood) (an := km293_a) (sp := km293_s) (rk := 3) 8 h (fun _ _ _ _ _ _ => trivial) (fun _ _ _ _ _ _ => trivial) (ht_tys cy) (by decide) rfl ⟨fx_an, (fx_ac fl_X12_170 (fx_an)), fx_an, fx_an, fx_an, fx_an⟩ d_X12_isGood km293_k
-- X12_fails 0 i i
def km294_c : fx_C := ([.inr (.inr 1), .inl (1, 5), .inl (0, 1600)], [], [(none, [.inr (.inr 1), .inl (1, 5), .inl (0, 1600)], [((0, 4), .inl (1, 5))])], [(12, 4), (12, 5)])
def km294_a : List fx_N := []
def km294_s : List fx_D := []
def km294_x : fx_X := ([], [(170, 12, 4)], [(16, 12, 5, 0), (170, 12, 4, 0)], [], [], [])
set_option maxRecDepth 100000 in
theorem km294_k : fx_chk TM 3 km294_c 9 km294_x t_X12_fails km294_a km294_s 12 = true := by decide +kernel
set_option maxRecDepth 100000 in
theorem km294 {l : Launch} {E : (Nat → Prop) → State → Prop} {ad : List Nat} {D : va_G} {cy : Nat → ClassId} (h : fx_env E D classes (tys cy) nestW) : fx_Met l yX12_fails (.code yX12_fails cX12_fails 3 none :: wsL_law) ({ frames := 0, cells := 0, slots := 0, locals := 0 }) E (gsM, TM, cy, fun _ => True) ad D classes km294_c :=
  fx_sound (x := km294_x) (tb := t_X12_fails) (an := km294_a) (sp := km294_s) (rk := 9) 12 h (fun _ _ _ _ _ _ => trivial) (fun _ _ _ _ _ _ => trivial) (ht_tys cy) (by decide) rfl ⟨fx_an, (fx_ac fl_X12_170 (fx_an)), (fx_ac pl_X12_16 (fx_ac pl_X12_170 (fx_an))), fx_an, fx_an, fx_an⟩ d_X12_fails km294_k
-- X12_misplaced 0
def km295_c : fx_C := ([.inr (.inr 1)], [], [(none, [.inr (.inr 1)], [((0, 4), .inl (1, 5))])], [(12, 4), (12, 5)])
def km295_a : List fx_N := []
def km295_s : List fx_D := []
def km295_x : fx_X := ([], [(206, 12, 6), (213, 12, 8)], [], [], [], [(18, 237, 12, km294_c)])
set_option maxRecDepth 100000 in
theorem km295_k : fx_chk TM 1 km295_c 9 km295_x t_X12_misplaced km295_a km295_s 13 = true := by decide +kernel
set_option maxRecDepth 100000 in
theorem km295 {l : Launch} {E : (Nat → Prop) → State → Prop} {ad : List Nat} {D : va_G} {cy : Nat → ClassId} (h : fx_env E D classes (tys cy) nestW) : fx_Met l yX12_misplaced (.code yX12_misplaced cX12_misplaced 1 none :: wsL_law) ({ frames := 1, cells := 0, slots := 0, locals := 22 }) E (gsM, TM, cy, fun _ => True) ad D classes km295_c :=
  fx_sound (x := km295_x) (tb := t_X12_misplaced) (an := km295_a) (sp := km295_s) (rk := 9) 13 h (fun _ _ _ _ _ _ => trivial) (fun _ _ _ _ _ _ => trivial) (ht_tys cy) (by decide) rfl ⟨fx_an, (fx_ac fl_X12_206 (fx_ac fl_X12_213 (fx_an))), fx_an, fx_an, fx_an, (fx_ac (ev_V (km294 h) (by decide) rfl ⟨by decide, by decide⟩ iV_X12_fails g_X12_237) (fx_an))⟩ d_X12_misplaced km295_k
-- X12_must 0 i
def km296_c : fx_C := ([.inr (.inr 1), .inl (0, 1)], [((0, 7), .inl (0, 1600))], [(none, [.inr (.inr 1), .inl (0, 1)], [((0, 7), .inl (0, 1600))])], [(12, 4), (12, 5), (12, 6), (12, 7), (12, 8), (12, 9), (12, 10)])
def km296_a : List fx_N := []
def km296_s : List fx_D := []
def km296_x : fx_X := ([], [], [], [], [], [(1, 241, 12, km293_c), (13, 245, 12, km292_c), (20, 248, 12, km295_c)])
set_option maxRecDepth 100000 in
theorem km296_k : fx_chk TM 2 km296_c 9 km296_x t_X12_must km296_a km296_s 11 = true := by decide +kernel
set_option maxRecDepth 100000 in
theorem km296 {l : Launch} {E : (Nat → Prop) → State → Prop} {ad : List Nat} {D : va_G} {cy : Nat → ClassId} (h : fx_env E D classes (tys cy) nestW) : fx_Met l yX12_must (.code yX12_must cX12_must 2 none :: wsL_law) ({ frames := 2, cells := 0, slots := 0, locals := 44 }) E (gsM, TM, cy, fun _ => True) ad D classes km296_c :=
  fx_sound (x := km296_x) (tb := t_X12_must) (an := km296_a) (sp := km296_s) (rk := 9) 11 h (fun _ _ _ _ _ _ => trivial) (fun _ _ _ _ _ _ => trivial) (ht_tys cy) (by decide) rfl ⟨fx_an, fx_an, fx_an, fx_an, fx_an, (fx_ac (ev_V (km293 h) (by decide) rfl ⟨by decide, by decide⟩ iV_X12_isGood g_X12_241) (fx_ac (ev_V (km292 h) (by decide) rfl ⟨by decide, by decide⟩ iV_X12_goOn g_X12_245) (fx_ac (ev_V (km295 h) (by decide) rfl ⟨by decide, by decide⟩ iV_X12_misplaced g_X12_248) (fx_an))))⟩ d_X12_must km296_k
