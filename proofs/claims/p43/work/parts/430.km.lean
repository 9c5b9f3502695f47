-- X12_isKept l
def km342_c : fx_C := ([.inr (.inl (-9223372036854775808, 9223372036854775807))], [], [(some (.inl (0, 0)), [.inr (.inl (-9223372036854775808, 9223372036854775807))], []), (some (.inl (1, 1)), [.inr (.inl (-9223372036854775808, 9223372036854775807))], [])], [])
def km342_a : List fx_N := []
def km342_s : List fx_D := []
def km342_x : fx_X := ([], [], [], [], [(173, 2003792484), (175, 512970880104), (177, 108187867505765), (179, 7499639), (181, 1936484720), (183, 1835627379), (185, 1685217655), (187, 482854658917), (189, 1936292453), (191, 499984983411), (193, 1818584692), (195, 491394656372), (197, 28530), (199, 6385252), (201, 7237492)], [])
set_option maxRecDepth 100000 in
theorem km342_k : fx_chk TM 3 km342_c 3 km342_x t_X12_isKept km342_a km342_s 69 = true := by decide +kernel
set_option maxRecDepth 100000 in
theorem km342 {l : Launch} {E : (Nat → Prop) → State → Prop} {ad : List Nat} {D : va_G} {cy : Nat → ClassId} (h : fx_env E D classes (tys cy) nestW) : fx_Met l yX12_isKept (.code yX12_isKept cX12_isKept 3 (some .boolean) :: wsL_law) ({ frames := 0, cells := 0, slots := 0, locals := 0 }) E (gsM, TM, cy, fun _ => True) ad D classes km342_c :=
  fx_sound (x := km342_x) (tb := t_X12_isKept) (an := km342_a) (sp := km342_s) (rk := 3) 69 h (fun _ _ _ _ _ _ => trivial) (fun _ _ _ _ _ _ => trivial) (ht_tys cy) (by decide) rfl ⟨fx_an, fx_an, fx_an, fx_an, (fx_ac kc_X12_173 (fx_ac kc_X12_175 (fx_ac kc_X12_177 (fx_ac kc_X12_179 (fx_ac kc_X12_181 (fx_ac kc_X12_183 (fx_ac kc_X12_185 (fx_ac kc_X12_187 (fx_ac kc_X12_189 (fx_ac kc_X12_191 (fx_ac kc_X12_193 (fx_ac kc_X12_195 (fx_ac kc_X12_197 (fx_ac kc_X12_199 (fx_ac kc_X12_201 (fx_an)))))))))))))))), fx_an⟩ d_X12_isKept km342_k
-- X12_goOn 0
def km343_c : fx_C := ([.inr (.inr 1)], [((0, 7), .inl (0, 1600))], [(none, [.inr (.inr 1)], [((0, 7), .inl (0, 1600)), ((0, 8), .inl (0, 5))])], [(12, 6), (12, 7), (12, 8), (12, 9), (12, 10)])
def km343_a : List fx_N := [(8, [(0, .inr (.inr 1))], [((0, 6), .inl (0, 1600)), ((0, 7), .inl (0, 1600))], [(0, 3), (1, 1), (0, 0)], [(0, 0)]), (119, [(0, .inr (.inr 1))], [((0, 3), .inl (1, 1600)), ((0, 6), .inl (0, 1599)), ((0, 7), .inl (1, 1600))], [(0, 2), (1, 3), (0, 0)], [(0, 0)]), (156, [(0, .inr (.inr 1)), (2, .inl (0, 1600))], [((0, 3), .inl (1, 1600)), ((0, 6), .inl (0, 1599)), ((0, 7), .inl (1, 1600))], [(0, 1), (1, 1), (0, 0)], [(0, 0)]), (259, [(0, .inr (.inr 1))], [((0, 3), .inl (1, 1600)), ((0, 6), .inl (0, 1599)), ((0, 7), .inl (0, 1600))], [(0, 0), (1, 3), (0, 0)], [(0, 0)])]
def km343_s : List fx_D := []
def km343_x : fx_X := ([], [(167, 12, 3), (203, 12, 7), (206, 12, 6), (220, 12, 10), (231, 12, 9)], [(203, 12, 7, 0), (206, 12, 6, 0), (213, 12, 8, 0), (220, 12, 10, 1), (231, 12, 9, 0)], [], [], [(24, 209, 12, km338_c), (37, 209, 12, km338_c), (63, 209, 12, km338_c), (113, 216, 1000, km339_c), (124, 209, 12, km338_c), (127, 216, 1000, km339_c), (185, 209, 12, km338_c), (222, 224, 1000, km342_c), (240, 228, 1000, km340_c), (264, 209, 12, km338_c), (267, 228, 1000, km340_c), (299, 209, 12, km338_c), (341, 209, 12, km338_c), (344, 216, 1000, km339_c), (363, 234, 1000, km341_c)])
set_option maxRecDepth 100000 in
theorem km343_k : fx_chk TM 3 km343_c 9 km343_x t_X12_goOn km343_a km343_s 49 = true := by decide +kernel
set_option maxRecDepth 100000 in
theorem km343 {l : Launch} {E : (Nat → Prop) → State → Prop} {ad : List Nat} {D : va_G} {cy : Nat → ClassId} (h : fx_env E D classes (tys cy) nestW) : fx_Met l yX12_goOn (.code yX12_goOn cX12_goOn 3 none :: wsL_law) ({ frames := 1, cells := 0, slots := 0, locals := 22 }) E (gsM, TM, cy, fun _ => True) ad D classes km343_c :=
  fx_sound (x := km343_x) (tb := t_X12_goOn) (an := km343_a) (sp := km343_s) (rk := 9) 49 h (fun _ _ _ _ _ _ => trivial) (fun _ _ _ _ _ _ => trivial) (ht_tys cy) (by decide) rfl ⟨fx_an, (fx_ac fl_X12_167 (fx_ac fl_X12_203 (fx_ac fl_X12_206 (fx_ac fl_X12_220 (fx_ac fl_X12_231 (fx_an)))))), (fx_ac pl_X12_203 (fx_ac pl_X12_206 (fx_ac pl_X12_213 (fx_ac pl_X12_220 (fx_ac pl_X12_231 (fx_an)))))), fx_an, fx_an, (fx_ac (ev_V (km338 h) (by decide) rfl ⟨by decide, by decide⟩ iV_X12_sign g_X12_209) (fx_ac (ev_V (km338 h) (by decide) rfl ⟨by decide, by decide⟩ iV_X12_sign g_X12_209) (fx_ac (ev_V (km338 h) (by decide) rfl ⟨by decide, by decide⟩ iV_X12_sign g_X12_209) (fx_ac (ev_S (km339 h) ⟨by decide, by decide⟩ iS_X12_isLetter g_X12_216) (fx_ac (ev_V (km338 h) (by decide) rfl ⟨by decide, by decide⟩ iV_X12_sign g_X12_209) (fx_ac (ev_S (km339 h) ⟨by decide, by decide⟩ iS_X12_isLetter g_X12_216) (fx_ac (ev_V (km338 h) (by decide) rfl ⟨by decide, by decide⟩ iV_X12_sign g_X12_209) (fx_ac (ev_S (km342 h) ⟨by decide, by decide⟩ iS_X12_isKept g_X12_224) (fx_ac (ev_S (km340 h) ⟨by decide, by decide⟩ iS_X12_isDigit g_X12_228) (fx_ac (ev_V (km338 h) (by decide) rfl ⟨by decide, by decide⟩ iV_X12_sign g_X12_209) (fx_ac (ev_S (km340 h) ⟨by decide, by decide⟩ iS_X12_isDigit g_X12_228) (fx_ac (ev_V (km338 h) (by decide) rfl ⟨by decide, by decide⟩ iV_X12_sign g_X12_209) (fx_ac (ev_V (km338 h) (by decide) rfl ⟨by decide, by decide⟩ iV_X12_sign g_X12_209) (fx_ac (ev_S (km339 h) ⟨by decide, by decide⟩ iS_X12_isLetter g_X12_216) (fx_ac (ev_S (km341 h) ⟨by decide, by decide⟩ iS_X12_isSign g_X12_234) (fx_an))))))))))))))))⟩ d_X12_goOn km343_k
-- X12_isGood 0
def km344_c : fx_C := ([.inr (.inr 1)], [], [(some (.inl (1, 1)), [.inr (.inr 1)], [((0, 4), .inl (0, 0))]), (some (.inl (0, 0)), [.inr (.inr 1)], [])], [])
def km344_a : List fx_N := []
def km344_s : List fx_D := []
def km344_x : fx_X := ([], [(170, 12, 4)], [], [], [], [])
set_option maxRecDepth 100000 in
theorem km344_k : fx_chk TM 1 km344_c 3 km344_x t_X12_isGood km344_a km344_s 8 = true := by decide +kernel
set_option maxRecDepth 100000 in
theorem km344 {l : Launch} {E : (Nat → Prop) → State → Prop} {ad : List Nat} {D : va_G} {cy : Nat → ClassId} (h : fx_env E D classes (tys cy) nestW) : fx_Met l yX12_isGood (.code yX12_isGood cX12_isGood 1 (some .boolean) :: wsL_law) ({ frames := 0, cells := 0, slots := 0, locals := 0 }) E (gsM, TM, cy, fun _ => True) ad D classes km344_c :=
  fx_sound (x := km344_x) (tb := t_X12_isGood) (an := km344_a) (sp := km344_s) (rk := 3) 8 h (fun _ _ _ _ _ _ => trivial) (fun _ _ _ _ _ _ => trivial) (ht_tys cy) (by decide) rfl ⟨fx_an, (fx_ac fl_X12_170 (fx_an)), fx_an, fx_an, fx_an, fx_an⟩ d_X12_isGood km344_k
-- X12_fails 0 i i
def km345_c : fx_C := ([.inr (.inr 1), .inl (1, 5), .inl (0, 1600)], [], [(none, [.inr (.inr 1), .inl (1, 5), .inl (0, 1600)], [((0, 4), .inl (1, 2147483647))])], [(12, 4), (12, 5)])
def km345_a : List fx_N := []
def km345_s : List fx_D := []
def km345_x : fx_X := ([], [(170, 12, 4)], [(16, 12, 5, 0), (170, 12, 4, 0)], [], [], [])
set_option maxRecDepth 100000 in
theorem km345_k : fx_chk TM 3 km345_c 9 km345_x t_X12_fails km345_a km345_s 12 = true := by decide +kernel
set_option maxRecDepth 100000 in
theorem km345 {l : Launch} {E : (Nat → Prop) → State → Prop} {ad : List Nat} {D : va_G} {cy : Nat → ClassId} (h : fx_env E D classes (tys cy) nestW) : fx_Met l yX12_fails (.code yX12_fails cX12_fails 3 none :: wsL_law) ({ frames := 0, cells := 0, slots := 0, locals := 0 }) E (gsM, TM, cy, fun _ => True) ad D classes km345_c :=
  fx_sound (x := km345_x) (tb := t_X12_fails) (an := km345_a) (sp := km345_s) (rk := 9) 12 h (fun _ _ _ _ _ _ => trivial) (fun _ _ _ _ _ _ => trivial) (ht_tys cy) (by decide) rfl ⟨fx_an, (fx_ac fl_X12_170 (fx_an)), (fx_ac pl_X12_16 (fx_ac pl_X12_170 (fx_an))), fx_an, fx_an, fx_an⟩ d_X12_fails km345_k
-- X12_misplaced 0
def km346_c : fx_C := ([.inr (.inr 1)], [], [(none, [.inr (.inr 1)], [((0, 4), .inl (1, 2147483647))])], [(12, 4), (12, 5)])
def km346_a : List fx_N := []
def km346_s : List fx_D := []
def km346_x : fx_X := ([], [(206, 12, 6), (213, 12, 8)], [], [], [], [(18, 237, 12, km345_c)])
set_option maxRecDepth 100000 in
theorem km346_k : fx_chk TM 1 km346_c 9 km346_x t_X12_misplaced km346_a km346_s 13 = true := by decide +kernel
set_option maxRecDepth 100000 in
theorem km346 {l : Launch} {E : (Nat → Prop) → State → Prop} {ad : List Nat} {D : va_G} {cy : Nat → ClassId} (h : fx_env E D classes (tys cy) nestW) : fx_Met l yX12_misplaced (.code yX12_misplaced cX12_misplaced 1 none :: wsL_law) ({ frames := 1, cells := 0, slots := 0, locals := 22 }) E (gsM, TM, cy, fun _ => True) ad D classes km346_c :=
  fx_sound (x := km346_x) (tb := t_X12_misplaced) (an := km346_a) (sp := km346_s) (rk := 9) 13 h (fun _ _ _ _ _ _ => trivial) (fun _ _ _ _ _ _ => trivial) (ht_tys cy) (by decide) rfl ⟨fx_an, (fx_ac fl_X12_206 (fx_ac fl_X12_213 (fx_an))), fx_an, fx_an, fx_an, (fx_ac (ev_V (km345 h) (by decide) rfl ⟨by decide, by decide⟩ iV_X12_fails g_X12_237) (fx_an))⟩ d_X12_misplaced km346_k
-- X12_must 0 i
def km347_c : fx_C := ([.inr (.inr 1), .inl (0, 1)], [((0, 7), .inl (0, 1600))], [(none, [.inr (.inr 1), .inl (0, 1)], [((0, 7), .inl (0, 1600))])], [(12, 4), (12, 5), (12, 6), (12, 7), (12, 8), (12, 9), (12, 10)])
def km347_a : List fx_N := []
def km347_s : List fx_D := []
def km347_x : fx_X := ([], [], [], [], [], [(1, 241, 12, km344_c), (13, 245, 12, km343_c), (20, 248, 12, km346_c)])
set_option maxRecDepth 100000 in
theorem km347_k : fx_chk TM 2 km347_c 9 km347_x t_X12_must km347_a km347_s 11 = true := by decide +kernel
set_option maxRecDepth 100000 in
theorem km347 {l : Launch} {E : (Nat → Prop) → State → Prop} {ad : List Nat} {D : va_G} {cy : Nat → ClassId} (h : fx_env E D classes (tys cy) nestW) : fx_Met l yX12_must (.code yX12_must cX12_must 2 none :: wsL_law) ({ frames := 2, cells := 0, slots := 0, locals := 44 }) E (gsM, TM, cy, fun _ => True) ad D classes km347_c :=
  fx_sound (x := km347_x) (tb := t_X12_must) (an := km347_a) (sp := km347_s) (rk := 9) 11 h (fun _ _ _ _ _ _ => trivial) (fun _ _ _ _ _ _ => trivial) (ht_tys cy) (by decide) rfl ⟨fx_an, fx_an, fx_an, fx_an, fx_an, (fx_ac (ev_V (km344 h) (by decide) rfl ⟨by decide, by decide⟩ iV_X12_isGood g_X12_241) (fx_ac (ev_V (km343 h) (by decide) rfl ⟨by decide, by decide⟩ iV_X12_goOn g_X12_245) (fx_ac (ev_V (km346 h) (by decide) rfl ⟨by decide, by decide⟩ iV_X12_misplaced g_X12_248) (fx_an))))⟩ d_X12_must km347_k
