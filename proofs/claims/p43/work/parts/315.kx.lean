-- X4_editsTo 3 11 11 i i
def kx341_c : fx_C := ([.inr (.inr 4), .inr (.inr 12), .inr (.inr 12), .inl (0, 12), .inl (0, 12)], [], [(some (.inl (-2147483648, 2147483647)), [.inr (.inr 4), .inr (.inr 12), .inr (.inr 12), .inl (0, 12), .inl (0, 12)], [])], [])
def kx341_a : List fx_N := []
def kx341_s : List fx_D := []
def kx341_x : fx_X := ([], [], [], [], [], [(22, 67, 4, kx210_c), (29, 43, 1, kx112_c), (37, 43, 1, kx112_c), (59, 67, 4, kx210_c), (68, 67, 4, kx210_c), (71, 53, 1002, ([], [], [], [])), (76, 53, 1002, ([], [], [], []))])
set_option maxRecDepth 100000 in
theorem kx341_k : fx_chk TX 6 kx341_c 0 kx341_x t_X4_editsTo kx341_a kx341_s 47 = true := by decide +kernel
set_option maxRecDepth 100000 in
theorem kx341 {l : Launch} {E : (Nat → Prop) → State → Prop} {ad : List Nat} {D : va_G} {gs : List Nat} {cy : Nat → ClassId} (h : fxX E D cy) : fx_Met l yX4_editsTo (.code yX4_editsTo cX4_editsTo 6 (some .int) :: wsL_law) ({ frames := 2, cells := 0, slots := 0, locals := 43 }) E (gs, TX, cy, fun _ => True) ad D classes kx341_c :=
  fx_sound (x := kx341_x) (tb := t_X4_editsTo) (an := kx341_a) (sp := kx341_s) (rk := 0) 47 h.1 (fun _ _ _ _ _ _ => trivial) (fun _ _ _ _ _ _ => trivial) (ht_tys cy) (by decide) rfl ⟨fx_an, fx_an, fx_an, fx_an, fx_an, (fx_ac (ev_V (kx210 h) (by decide) rfl ⟨by decide, by decide⟩ iV_X4_read g_X4_67) (fx_ac (ev_V (kx112 h) (by decide) rfl ⟨by decide, by decide⟩ iV_X1_at g_X4_43) (fx_ac (ev_V (kx112 h) (by decide) rfl ⟨by decide, by decide⟩ iV_X1_at g_X4_43) (fx_ac (ev_V (kx210 h) (by decide) rfl ⟨by decide, by decide⟩ iV_X4_read g_X4_67) (fx_ac (ev_V (kx210 h) (by decide) rfl ⟨by decide, by decide⟩ iV_X4_read g_X4_67) (fx_ac (ev_M (by decide) ⟨by decide, by decide, m_137, m_1107, m_396, m_397⟩) (fx_ac (ev_M (by decide) ⟨by decide, by decide, m_137, m_1107, m_396, m_397⟩) (fx_an))))))))⟩ d_X4_editsTo kx341_k
-- X4_countEdits 3 11 11
def kx342_c : fx_C := ([.inr (.inr 4), .inr (.inr 12), .inr (.inr 12)], [], [(some (.inl (-2147483648, 2147483647)), [.inr (.inr 4), .inr (.inr 12), .inr (.inr 12)], [])], [(1000, 31)])
def kx342_a : List fx_N := [(2, [(0, .inr (.inr 4)), (1, .inr (.inr 12)), (2, .inr (.inr 12)), (3, .inl (0, 14))], [], [(0, 0), (1, 3), (0, 1), (0, 0), (0, 0)], [(0, 0), (1, 1), (2, 2)]), (13, [(0, .inr (.inr 4)), (1, .inr (.inr 12)), (2, .inr (.inr 12)), (3, .inl (0, 12)), (4, .inl (0, 14))], [], [(0, 0), (1, 3), (0, 0), (1, 4), (0, 0)], [(0, 0), (1, 1), (2, 2)])]
def kx342_s : List fx_D := []
def kx342_x : fx_X := ([], [(39, 1, 1)], [], [], [], [(32, 59, 4, kx341_c), (35, 63, 4, kx212_c), (59, 67, 4, kx210_c)])
set_option maxRecDepth 100000 in
theorem kx342_k : fx_chk TX 5 kx342_c 0 kx342_x t_X4_countEdits kx342_a kx342_s 19 = true := by decide +kernel
set_option maxRecDepth 100000 in
theorem kx342 {l : Launch} {E : (Nat → Prop) → State → Prop} {ad : List Nat} {D : va_G} {gs : List Nat} {cy : Nat → ClassId} (h : fxX E D cy) : fx_Met l yX4_countEdits (.code yX4_countEdits cX4_countEdits 5 (some .int) :: wsL_law) ({ frames := 3, cells := 0, slots := 0, locals := 68 }) E (gs, TX, cy, fun _ => True) ad D classes kx342_c :=
  fx_sound (x := kx342_x) (tb := t_X4_countEdits) (an := kx342_a) (sp := kx342_s) (rk := 0) 19 h.1 (fun _ _ _ _ _ _ => trivial) (fun _ _ _ _ _ _ => trivial) (ht_tys cy) (by decide) rfl ⟨fx_an, (fx_ac fl_X4_39 (fx_an)), fx_an, fx_an, fx_an, (fx_ac (ev_V (kx341 h) (by decide) rfl ⟨by decide, by decide⟩ iV_X4_editsTo g_X4_59) (fx_ac (ev_V (kx212 h) (by decide) rfl ⟨by decide, by decide⟩ iV_X4_write g_X4_63) (fx_ac (ev_V (kx210 h) (by decide) rfl ⟨by decide, by decide⟩ iV_X4_read g_X4_67) (fx_an))))⟩ d_X4_countEdits kx342_k
-- X11_apart 0 i i
def kx343_c : fx_C := ([.inr (.inr 1), .inl (-2147483648, 2147483647), .inl (-2147483648, 2147483647)], [], [(some (.inl (-2147483648, 2147483647)), [.inr (.inr 1), .inl (-1, 4), .inl (-1, 4)], []), (some (.inl (-1, -1)), [.inr (.inr 1), .inl (-2147483648, 2147483647), .inl (-2147483648, 2147483647)], [])], [(1000, 31)])
def kx343_a : List fx_N := []
def kx343_s : List fx_D := []
def kx343_x : fx_X := ([], [(26, 11, 2)], [], [], [], [(2, 131, 11, kx126_c), (8, 131, 11, kx126_c), (33, 235, 4, kx336_c), (33, 235, 4, kx338_c), (33, 235, 4, kx340_c), (33, 235, 4, kx342_c)])
set_option maxRecDepth 100000 in
theorem kx343_k : fx_chk TX 5 kx343_c 0 kx343_x t_X11_apart kx343_a kx343_s 20 = true := by decide +kernel
set_option maxRecDepth 100000 in
theorem kx343 {l : Launch} {E : (Nat → Prop) → State → Prop} {ad : List Nat} {D : va_G} {gs : List Nat} {cy : Nat → ClassId} (h : fxX E D cy) : fx_Met l yX11_apart (.code yX11_apart cX11_apart 5 (some .int) :: wsL_law) ({ frames := 4, cells := 0, slots := 0, locals := 92 }) E (gs, TX, cy, fun _ => True) ad D classes kx343_c :=
  fx_sound (x := kx343_x) (tb := t_X11_apart) (an := kx343_a) (sp := kx343_s) (rk := 0) 20 h.1 (fun _ _ _ _ _ _ => trivial) (fun _ _ _ _ _ _ => trivial) (ht_tys cy) (by decide) rfl ⟨fx_an, (fx_ac fl_X11_26 (fx_an)), fx_an, fx_an, fx_an, (fx_ac (ev_V (kx126 h) (by decide) rfl ⟨by decide, by decide⟩ iV_X11_lineOf g_X11_131) (fx_ac (ev_V (kx126 h) (by decide) rfl ⟨by decide, by decide⟩ iV_X11_lineOf g_X11_131) (fx_ac (ev_V (kx336 h) (by decide) rfl ⟨by decide, by decide⟩ iV_X4_countEdits g_X11_235) (fx_ac (ev_V (kx338 h) (by decide) rfl ⟨by decide, by decide⟩ iV_X4_countEdits g_X11_235) (fx_ac (ev_V (kx340 h) (by decide) rfl ⟨by decide, by decide⟩ iV_X4_countEdits g_X11_235) (fx_ac (ev_V (kx342 h) (by decide) rfl ⟨by decide, by decide⟩ iV_X4_countEdits g_X11_235) (fx_an)))))))⟩ d_X11_apart kx343_k
-- X4_longestFrom 3 64 11 i i
def kx344_c : fx_C := ([.inr (.inr 4), .inr (.inr 65), .inr (.inr 12), .inl (0, 8), .inl (0, 12)], [], [(some (.inl (0, 0)), [.inr (.inr 4), .inr (.inr 65), .inr (.inr 12), .inl (0, 8), .inl (0, 12)], []), (some (.inl (-2147483648, 2147483647)), [.inr (.inr 4), .inr (.inr 65), .inr (.inr 12), .inl (0, 8), .inl (0, 12)], []), (some (.inl (1, 1)), [.inr (.inr 4), .inr (.inr 65), .inr (.inr 12), .inl (0, 8), .inl (12, 12)], [])], [])
def kx344_a : List fx_N := []
def kx344_s : List fx_D := []
def kx344_x : fx_X := ([], [(39, 1, 1)], [], [], [], [(21, 43, 1, kx118_c), (27, 43, 1, kx112_c), (41, 67, 4, kx210_c), (53, 67, 4, kx210_c), (62, 67, 4, kx210_c), (65, 73, 1001, ([], [], [], []))])
set_option maxRecDepth 100000 in
theorem kx344_k : fx_chk TX 5 kx344_c 0 kx344_x t_X4_longestFrom kx344_a kx344_s 31 = true := by decide +kernel
set_option maxRecDepth 100000 in
theorem kx344 {l : Launch} {E : (Nat → Prop) → State → Prop} {ad : List Nat} {D : va_G} {gs : List Nat} {cy : Nat → ClassId} (h : fxX E D cy) : fx_Met l yX4_longestFrom (.code yX4_longestFrom cX4_longestFrom 5 (some .int) :: wsL_law) ({ frames := 2, cells := 0, slots := 0, locals := 43 }) E (gs, TX, cy, fun _ => True) ad D classes kx344_c :=
  fx_sound (x := kx344_x) (tb := t_X4_longestFrom) (an := kx344_a) (sp := kx344_s) (rk := 0) 31 h.1 (fun _ _ _ _ _ _ => trivial) (fun _ _ _ _ _ _ => trivial) (ht_tys cy) (by decide) rfl ⟨fx_an, (fx_ac fl_X4_39 (fx_an)), fx_an, fx_an, fx_an, (fx_ac (ev_V (kx118 h) (by decide) rfl ⟨by decide, by decide⟩ iV_X1_at g_X4_43) (fx_ac (ev_V (kx112 h) (by decide) rfl ⟨by decide, by decide⟩ iV_X1_at g_X4_43) (fx_ac (ev_V (kx210 h) (by decide) rfl ⟨by decide, by decide⟩ iV_X4_read g_X4_67) (fx_ac (ev_V (kx210 h) (by decide) rfl ⟨by decide, by decide⟩ iV_X4_read g_X4_67) (fx_ac (ev_V (kx210 h) (by decide) rfl ⟨by decide, by decide⟩ iV_X4_read g_X4_67) (fx_ac (ev_M (by decide) ⟨by decide, by decide, m_137, m_1253, m_136, m_138⟩) (fx_an)))))))⟩ d_X4_longestFrom kx344_k
-- X4_lengthOfLongest 3 64 11
def kx345_c : fx_C := ([.inr (.inr 4), .inr (.inr 65), .inr (.inr 12)], [], [(some (.inl (-2147483648, 2147483647)), [.inr (.inr 4), .inr (.inr 65), .inr (.inr 12)], [])], [(1000, 31)])
def kx345_a : List fx_N := [(5, [(0, .inr (.inr 4)), (1, .inr (.inr 65)), (2, .inr (.inr 12)), (3, .inl (-1, 8))], [], [(0, 0), (2, 3), (0, 1), (0, 0), (0, 0)], [(0, 0), (1, 1), (2, 2)]), (15, [(0, .inr (.inr 4)), (1, .inr (.inr 65)), (2, .inr (.inr 12)), (3, .inl (0, 8)), (4, .inl (-1, 12))], [], [(0, 0), (2, 3), (0, 0), (2, 4), (0, 0)], [(0, 0), (1, 1), (2, 2)])]
def kx345_s : List fx_D := []
def kx345_x : fx_X := ([], [(39, 1, 1)], [], [], [], [(30, 70, 4, kx344_c), (33, 63, 4, kx212_c), (51, 67, 4, kx210_c)])
set_option maxRecDepth 100000 in
theorem kx345_k : fx_chk TX 5 kx345_c 0 kx345_x t_X4_lengthOfLongest kx345_a kx345_s 17 = true := by decide +kernel
set_option maxRecDepth 100000 in
theorem kx345 {l : Launch} {E : (Nat → Prop) → State → Prop} {ad : List Nat} {D : va_G} {gs : List Nat} {cy : Nat → ClassId} (h : fxX E D cy) : fx_Met l yX4_lengthOfLongest (.code yX4_lengthOfLongest cX4_lengthOfLongest 5 (some .int) :: wsL_law) ({ frames := 3, cells := 0, slots := 0, locals := 67 }) E (gs, TX, cy, fun _ => True) ad D classes kx345_c :=
  fx_sound (x := kx345_x) (tb := t_X4_lengthOfLongest) (an := kx345_a) (sp := kx345_s) (rk := 0) 17 h.1 (fun _ _ _ _ _ _ => trivial) (fun _ _ _ _ _ _ => trivial) (ht_tys cy) (by decide) rfl ⟨fx_an, (fx_ac fl_X4_39 (fx_an)), fx_an, fx_an, fx_an, (fx_ac (ev_V (kx344 h) (by decide) rfl ⟨by decide, by decide⟩ iV_X4_longestFrom g_X4_70) (fx_ac (ev_V (kx212 h) (by decide) rfl ⟨by decide, by decide⟩ iV_X4_write g_X4_63) (fx_ac (ev_V (kx210 h) (by decide) rfl ⟨by decide, by decide⟩ iV_X4_read g_X4_67) (fx_an))))⟩ d_X4_lengthOfLongest kx345_k
-- X11_strange 0 i
def kx346_c : fx_C := ([.inr (.inr 1), .inl (-2147483648, 2147483647)], [], [(some (.inl (-2147483648, 2147483647)), [.inr (.inr 1), .inl (0, 4)], [((0, 8), .inr (.inr 9)), ((2, 9), .inl (1, 5))]), (some (.inl (-1, -1)), [.inr (.inr 1), .inl (-2147483648, 2147483647)], [])], [(1000, 31)])
def kx346_a : List fx_N := []
def kx346_s : List fx_D := []
def kx346_x : fx_X := ([], [(19, 11, 1), (26, 11, 2), (114, 5, 0), (118, 8, 0), (134, 1, 1)], [], [], [], [(2, 127, 11, kx124_c), (33, 238, 4, kx345_c)])
set_option maxRecDepth 100000 in
theorem kx346_k : fx_chk TX 3 kx346_c 0 kx346_x t_X11_strange kx346_a kx346_s 20 = true := by decide +kernel
set_option maxRecDepth 100000 in
theorem kx346 {l : Launch} {E : (Nat → Prop) → State → Prop} {ad : List Nat} {D : va_G} {gs : List Nat} {cy : Nat → ClassId} (h : fxX E D cy) : fx_Met l yX11_strange (.code yX11_strange cX11_strange 3 (some .int) :: wsL_law) ({ frames := 4, cells := 0, slots := 0, locals := 91 }) E (gs, TX, cy, fun _ => True) ad D classes kx346_c :=
  fx_sound (x := kx346_x) (tb := t_X11_strange) (an := kx346_a) (sp := kx346_s) (rk := 0) 20 h.1 (fun _ _ _ _ _ _ => trivial) (fun _ _ _ _ _ _ => trivial) (ht_tys cy) (by decide) rfl ⟨fx_an, (fx_ac fl_X11_19 (fx_ac fl_X11_26 (fx_ac fl_X11_114 (fx_ac fl_X11_118 (fx_ac fl_X11_134 (fx_an)))))), fx_an, fx_an, fx_an, (fx_ac (ev_V (kx124 h) (by decide) rfl ⟨by decide, by decide⟩ iV_X11_slipOf g_X11_127) (fx_ac (ev_V (kx345 h) (by decide) rfl ⟨by decide, by decide⟩ iV_X4_lengthOfLongest g_X11_238) (fx_an)))⟩ d_X11_strange kx346_k
-- X1_isLike 11 64
def kx347_c : fx_C := ([.inr (.inr 12), .inr (.inr 65)], [], [(some (.inl (0, 0)), [.inr (.inr 12), .inr (.inr 65)], []), (some (.inl (1, 1)), [.inr (.inr 12), .inr (.inr 65)], [])], [])
def kx347_a : List fx_N := [(15, [(0, .inr (.inr 12)), (1, .inr (.inr 65)), (2, .inl (0, 12))], [], [(0, 0), (1, 2), (0, 0)], [(0, 0), (1, 1)])]
def kx347_s : List fx_D := []
def kx347_x : fx_X := ([], [(21, 1, 1)], [], [], [], [(25, 36, 1, kx112_c), (30, 36, 1, kx118_c)])
set_option maxRecDepth 100000 in
theorem kx347_k : fx_chk TX 3 kx347_c 3 kx347_x t_X1_isLike kx347_a kx347_s 16 = true := by decide +kernel
set_option maxRecDepth 100000 in
theorem kx347 {l : Launch} {E : (Nat → Prop) → State → Prop} {ad : List Nat} {D : va_G} {gs : List Nat} {cy : Nat → ClassId} (h : fxX E D cy) : fx_Met l yX1_isLike (.code yX1_isLike cX1_isLike 3 (some .boolean) :: wsL_law) ({ frames := 1, cells := 0, slots := 0, locals := 21 }) E (gs, TX, cy, fun _ => True) ad D classes kx347_c :=
  fx_sound (x := kx347_x) (tb := t_X1_isLike) (an := kx347_a) (sp := kx347_s) (rk := 3) 16 h.1 (fun _ _ _ _ _ _ => trivial) (fun _ _ _ _ _ _ => trivial) (ht_tys cy) (by decide) rfl ⟨fx_an, (fx_ac fl_X1_21 (fx_an)), fx_an, fx_an, fx_an, (fx_ac (ev_V (kx112 h) (by decide) rfl ⟨by decide, by decide⟩ iV_X1_at g_X1_36) (fx_ac (ev_V (kx118 h) (by decide) rfl ⟨by decide, by decide⟩ iV_X1_at g_X1_36) (fx_an)))⟩ d_X1_isLike kx347_k
-- X5_roundsUntil 2 8 i 64
def kx348_c : fx_C := ([.inr (.inr 3), .inr (.inr 9), .inl (0, 2), .inr (.inr 65)], [], [(some (.inl (0, 12)), [.inr (.inr 3), .inr (.inr 9), .inl (0, 2), .inr (.inr 65)], []), (some (.inl (-1, -1)), [.inr (.inr 3), .inr (.inr 9), .inl (0, 2), .inr (.inr 65)], [])], [(0, 5), (1, 1), (8, 1), (8, 2), (1000, 14), (1000, 19), (1000, 20)])
def kx348_a : List fx_N := [(14, [(0, .inr (.inr 3)), (1, .inr (.inr 9)), (2, .inl (0, 2)), (3, .inr (.inr 65)), (4, .inl (0, 13))], [], [(0, 0), (1, 4), (0, 0)], [(0, 0), (1, 1), (2, 2), (3, 3)])]
def kx348_s : List fx_D := []
def kx348_x : fx_X := ([], [(12, 5, 0), (18, 5, 1), (32, 8, 0)], [], [], [], [(8, 103, 8, kx114_c), (29, 106, 1, kx347_c), (44, 61, 8, kx152_c)])
set_option maxRecDepth 100000 in
theorem kx348_k : fx_chk TX 5 kx348_c 0 kx348_x t_X5_roundsUntil kx348_a kx348_s 20 = true := by decide +kernel
set_option maxRecDepth 100000 in
theorem kx348 {l : Launch} {E : (Nat → Prop) → State → Prop} {ad : List Nat} {D : va_G} {gs : List Nat} {cy : Nat → ClassId} (h : fxX E D cy) : fx_Met l yX5_roundsUntil (.code yX5_roundsUntil cX5_roundsUntil 5 (some .int) :: wsL_law) ({ frames := 6, cells := 0, slots := 0, locals := 138 }) E (gs, TX, cy, fun _ => True) ad D classes kx348_c :=
  fx_sound (x := kx348_x) (tb := t_X5_roundsUntil) (an := kx348_a) (sp := kx348_s) (rk := 0) 20 h.1 (fun _ _ _ _ _ _ => trivial) (fun _ _ _ _ _ _ => trivial) (ht_tys cy) (by decide) rfl ⟨fx_an, (fx_ac fl_X5_12 (fx_ac fl_X5_18 (fx_ac fl_X5_32 (fx_an)))), fx_an, fx_an, fx_an, (fx_ac (ev_V (kx114 h) (by decide) rfl ⟨by decide, by decide⟩ iV_X8_copy g_X5_103) (fx_ac (ev_V (kx347 h) (by decide) rfl ⟨by decide, by decide⟩ iV_X1_isLike g_X5_106) (fx_ac (ev_V (kx152 h) (by decide) rfl ⟨by decide, by decide⟩ iV_X8_goRound g_X5_61) (fx_an))))⟩ d_X5_roundsUntil kx348_k
-- X11_becomes 0 i i
def kx349_c : fx_C := ([.inr (.inr 1), .inl (-2147483648, 2147483647), .inl (-2147483648, 2147483647)], [], [(some (.inl (-1, -1)), [.inr (.inr 1), .inl (-2147483648, 2147483647), .inl (-2147483648, 2147483647)], []), (some (.inl (0, 12)), [.inr (.inr 1), .inl (0, 2), .inl (0, 4)], [((0, 8), .inr (.inr 9)), ((3, 9), .inl (1, 5))])], [(0, 5), (1, 1), (8, 1), (8, 2), (1000, 14), (1000, 19), (1000, 20)])
def kx349_a : List fx_N := []
def kx349_s : List fx_D := []
def kx349_x : fx_X := ([], [(19, 11, 1), (66, 11, 8)], [], [], [], [(2, 127, 11, kx124_c), (11, 167, 1000, kx150_c), (31, 241, 5, kx348_c)])
set_option maxRecDepth 100000 in
theorem kx349_k : fx_chk TX 4 kx349_c 0 kx349_x t_X11_becomes kx349_a kx349_s 19 = true := by decide +kernel
set_option maxRecDepth 100000 in
theorem kx349 {l : Launch} {E : (Nat → Prop) → State → Prop} {ad : List Nat} {D : va_G} {gs : List Nat} {cy : Nat → ClassId} (h : fxX E D cy) : fx_Met l yX11_becomes (.code yX11_becomes cX11_becomes 4 (some .int) :: wsL_law) ({ frames := 7, cells := 0, slots := 0, locals := 162 }) E (gs, TX, cy, fun _ => True) ad D classes kx349_c :=
  fx_sound (x := kx349_x) (tb := t_X11_becomes) (an := kx349_a) (sp := kx349_s) (rk := 0) 19 h.1 (fun _ _ _ _ _ _ => trivial) (fun _ _ _ _ _ _ => trivial) (ht_tys cy) (by decide) rfl ⟨fx_an, (fx_ac fl_X11_19 (fx_ac fl_X11_66 (fx_an))), fx_an, fx_an, fx_an, (fx_ac (ev_V (kx124 h) (by decide) rfl ⟨by decide, by decide⟩ iV_X11_slipOf g_X11_127) (fx_ac (ev_S (kx150 h) ⟨by decide, by decide⟩ iS_X11_isRule g_X11_167) (fx_ac (ev_V (kx348 h) (by decide) rfl ⟨by decide, by decide⟩ iV_X5_roundsUntil g_X11_241) (fx_an))))⟩ d_X11_becomes kx349_k
-- X5_rowAfter 2 8 i i
def kx350_c : fx_C := ([.inr (.inr 3), .inr (.inr 9), .inl (0, 2), .inl (0, 12)], [], [(some (.inr (.inr 12)), [.inr (.inr 3), .inr (.inr 9), .inl (0, 2), .inl (0, 12)], [])], [(0, 5), (1, 1), (8, 1), (8, 2), (1000, 14), (1000, 19), (1000, 20)])
def kx350_a : List fx_N := [(14, [(0, .inr (.inr 3)), (1, .inr (.inr 9)), (2, .inl (0, 2)), (3, .inl (0, 12)), (4, .inl (0, 12))], [], [(0, 0), (1, 4), (0, 0)], [(0, 0), (1, 1), (2, 2), (3, 3)])]
def kx350_s : List fx_D := []
def kx350_x : fx_X := ([], [(12, 5, 0), (18, 5, 1), (32, 8, 0)], [], [], [], [(8, 103, 8, kx114_c), (26, 61, 8, kx152_c)])
set_option maxRecDepth 100000 in
theorem kx350_k : fx_chk TX 5 kx350_c 4 kx350_x t_X5_rowAfter kx350_a kx350_s 14 = true := by decide +kernel
set_option maxRecDepth 100000 in
theorem kx350 {l : Launch} {E : (Nat → Prop) → State → Prop} {ad : List Nat} {D : va_G} {gs : List Nat} {cy : Nat → ClassId} (h : fxX E D cy) : fx_Met l yX5_rowAfter (.code yX5_rowAfter cX5_rowAfter 5 (some (.object "LostWords$Line")) :: wsL_law) ({ frames := 6, cells := 0, slots := 0, locals := 138 }) E (gs, TX, cy, fun _ => True) ad D classes kx350_c :=
  fx_sound (x := kx350_x) (tb := t_X5_rowAfter) (an := kx350_a) (sp := kx350_s) (rk := 4) 14 h.1 (fun _ _ _ _ _ _ => trivial) (fun _ _ _ _ _ _ => trivial) (ht_tys cy) (by decide) ⟨_, rfl⟩ ⟨fx_an, (fx_ac fl_X5_12 (fx_ac fl_X5_18 (fx_ac fl_X5_32 (fx_an)))), fx_an, fx_an, fx_an, (fx_ac (ev_V (kx114 h) (by decide) rfl ⟨by decide, by decide⟩ iV_X8_copy g_X5_103) (fx_ac (ev_V (kx152 h) (by decide) rfl ⟨by decide, by decide⟩ iV_X8_goRound g_X5_61) (fx_an)))⟩ d_X5_rowAfter kx350_k
-- X11_will 0 i i
def kx351_c : fx_C := ([.inr (.inr 1), .inl (-2147483648, 2147483647), .inl (-2147483648, 2147483647)], [], [(some (.inl (-1000000, -1000000)), [.inr (.inr 1), .inl (-2147483648, 2147483647), .inl (-2147483648, 2147483647)], []), (some (.inl (-2147483648, 2147483647)), [.inr (.inr 1), .inl (0, 2), .inl (0, 12)], [])], [(0, 5), (1, 1), (8, 1), (8, 2), (1000, 14), (1000, 19), (1000, 20)])
def kx351_a : List fx_N := []
def kx351_s : List fx_D := []
def kx351_x : fx_X := ([], [(19, 11, 1), (66, 11, 8)], [], [(147, -1000000)], [], [(1, 167, 1000, kx150_c), (34, 245, 5, kx350_c), (37, 148, 10, kx133_c)])
set_option maxRecDepth 100000 in
theorem kx351_k : fx_chk TX 3 kx351_c 0 kx351_x t_X11_will kx351_a kx351_s 21 = true := by decide +kernel
set_option maxRecDepth 100000 in
theorem kx351 {l : Launch} {E : (Nat → Prop) → State → Prop} {ad : List Nat} {D : va_G} {gs : List Nat} {cy : Nat → ClassId} (h : fxX E D cy) : fx_Met l yX11_will (.code yX11_will cX11_will 3 (some .int) :: wsL_law) ({ frames := 7, cells := 0, slots := 0, locals := 162 }) E (gs, TX, cy, fun _ => True) ad D classes kx351_c :=
  fx_sound (x := kx351_x) (tb := t_X11_will) (an := kx351_a) (sp := kx351_s) (rk := 0) 21 h.1 (fun _ _ _ _ _ _ => trivial) (fun _ _ _ _ _ _ => trivial) (ht_tys cy) (by decide) rfl ⟨fx_an, (fx_ac fl_X11_19 (fx_ac fl_X11_66 (fx_an))), fx_an, (fx_ac kc_X11_147 (fx_an)), fx_an, (fx_ac (ev_S (kx150 h) ⟨by decide, by decide⟩ iS_X11_isRule g_X11_167) (fx_ac (ev_V (kx350 h) (by decide) rfl ⟨by decide, by decide⟩ iV_X5_rowAfter g_X11_245) (fx_ac (ev_V (kx133 h) (by decide) rfl ⟨by decide, by decide⟩ iV_X10_senseOf g_X11_148) (fx_an))))⟩ d_X11_will kx351_k
-- X11_last 0 i
def kx352_c : fx_C := ([.inr (.inr 1), .inl (-2147483648, 2147483647)], [], [(some (.inl (-1, -1)), [.inr (.inr 1), .inl (-2147483648, 2147483647)], []), (some (.inl (-2147483648, 2147483647)), [.inr (.inr 1), .inl (0, 2)], [])], [(0, 5), (1, 1), (8, 1), (8, 2), (1000, 14), (1000, 19), (1000, 20)])
def kx352_a : List fx_N := []
def kx352_s : List fx_D := []
def kx352_x : fx_X := ([], [(19, 11, 1), (66, 11, 8), (114, 5, 0), (118, 8, 0), (134, 1, 1)], [], [], [], [(17, 167, 1000, kx150_c), (39, 245, 5, kx350_c), (43, 123, 1, kx112_c)])
set_option maxRecDepth 100000 in
theorem kx352_k : fx_chk TX 3 kx352_c 0 kx352_x t_X11_last kx352_a kx352_s 25 = true := by decide +kernel
set_option maxRecDepth 100000 in
theorem kx352 {l : Launch} {E : (Nat → Prop) → State → Prop} {ad : List Nat} {D : va_G} {gs : List Nat} {cy : Nat → ClassId} (h : fxX E D cy) : fx_Met l yX11_last (.code yX11_last cX11_last 3 (some .int) :: wsL_law) ({ frames := 7, cells := 0, slots := 0, locals := 162 }) E (gs, TX, cy, fun _ => True) ad D classes kx352_c :=
  fx_sound (x := kx352_x) (tb := t_X11_last) (an := kx352_a) (sp := kx352_s) (rk := 0) 25 h.1 (fun _ _ _ _ _ _ => trivial) (fun _ _ _ _ _ _ => trivial) (ht_tys cy) (by decide) rfl ⟨fx_an, (fx_ac fl_X11_19 (fx_ac fl_X11_66 (fx_ac fl_X11_114 (fx_ac fl_X11_118 (fx_ac fl_X11_134 (fx_an)))))), fx_an, fx_an, fx_an, (fx_ac (ev_S (kx150 h) ⟨by decide, by decide⟩ iS_X11_isRule g_X11_167) (fx_ac (ev_V (kx350 h) (by decide) rfl ⟨by decide, by decide⟩ iV_X5_rowAfter g_X11_245) (fx_ac (ev_V (kx112 h) (by decide) rfl ⟨by decide, by decide⟩ iV_X1_at g_X11_123) (fx_an))))⟩ d_X11_last kx352_k
-- X10_markOf 8 64
def kx353_c : fx_C := ([.inr (.inr 9), .inr (.inr 65)], [], [(some (.inl (-2147483648, 2147483647)), [.inr (.inr 9), .inr (.inr 65)], [])], [])
def kx353_a : List fx_N := [(4, [(0, .inr (.inr 9)), (1, .inr (.inr 65)), (2, .inl (-2147483648, 2147483647)), (3, .inl (0, 8))], [], [(0, 0), (1, 3), (0, 0)], [(0, 0), (1, 1)])]
def kx353_s : List fx_D := []
def kx353_x : fx_X := ([], [(77, 1, 1)], [], [], [], [(19, 80, 1, kx118_c), (22, 88, 10, kx128_c)])
set_option maxRecDepth 100000 in
theorem kx353_k : fx_chk TX 4 kx353_c 0 kx353_x t_X10_markOf kx353_a kx353_s 21 = true := by decide +kernel
set_option maxRecDepth 100000 in
theorem kx353 {l : Launch} {E : (Nat → Prop) → State → Prop} {ad : List Nat} {D : va_G} {gs : List Nat} {cy : Nat → ClassId} (h : fxX E D cy) : fx_Met l yX10_markOf (.code yX10_markOf cX10_markOf 4 (some .int) :: wsL_law) ({ frames := 2, cells := 0, slots := 0, locals := 42 }) E (gs, TX, cy, fun _ => True) ad D classes kx353_c :=
  fx_sound (x := kx353_x) (tb := t_X10_markOf) (an := kx353_a) (sp := kx353_s) (rk := 0) 21 h.1 (fun _ _ _ _ _ _ => trivial) (fun _ _ _ _ _ _ => trivial) (ht_tys cy) (by decide) rfl ⟨fx_an, (fx_ac fl_X10_77 (fx_an)), fx_an, fx_an, fx_an, (fx_ac (ev_V (kx118 h) (by decide) rfl ⟨by decide, by decide⟩ iV_X1_at g_X10_80) (fx_ac (ev_V (kx128 h) (by decide) rfl ⟨by decide, by decide⟩ iV_X10_worthOf g_X10_88) (fx_an)))⟩ d_X10_markOf kx353_k
-- X10_markOf 8 11
def kx354_c : fx_C := ([.inr (.inr 9), .inr (.inr 12)], [], [(some (.inl (-2147483648, 2147483647)), [.inr (.inr 9), .inr (.inr 12)], [])], [])
def kx354_a : List fx_N := [(4, [(0, .inr (.inr 9)), (1, .inr (.inr 12)), (2, .inl (-2147483648, 2147483647)), (3, .inl (0, 12))], [], [(0, 0), (1, 3), (0, 0)], [(0, 0), (1, 1)])]
def kx354_s : List fx_D := []
def kx354_x : fx_X := ([], [(77, 1, 1)], [], [], [], [(19, 80, 1, kx112_c), (22, 88, 10, kx128_c)])
set_option maxRecDepth 100000 in
theorem kx354_k : fx_chk TX 4 kx354_c 0 kx354_x t_X10_markOf kx354_a kx354_s 21 = true := by decide +kernel
set_option maxRecDepth 100000 in
theorem kx354 {l : Launch} {E : (Nat → Prop) → State → Prop} {ad : List Nat} {D : va_G} {gs : List Nat} {cy : Nat → ClassId} (h : fxX E D cy) : fx_Met l yX10_markOf (.code yX10_markOf cX10_markOf 4 (some .int) :: wsL_law) ({ frames := 2, cells := 0, slots := 0, locals := 42 }) E (gs, TX, cy, fun _ => True) ad D classes kx354_c :=
  fx_sound (x := kx354_x) (tb := t_X10_markOf) (an := kx354_a) (sp := kx354_s) (rk := 0) 21 h.1 (fun _ _ _ _ _ _ => trivial) (fun _ _ _ _ _ _ => trivial) (ht_tys cy) (by decide) rfl ⟨fx_an, (fx_ac fl_X10_77 (fx_an)), fx_an, fx_an, fx_an, (fx_ac (ev_V (kx112 h) (by decide) rfl ⟨by decide, by decide⟩ iV_X1_at g_X10_80) (fx_ac (ev_V (kx128 h) (by decide) rfl ⟨by decide, by decide⟩ iV_X10_worthOf g_X10_88) (fx_an)))⟩ d_X10_markOf kx354_k
-- X11_mark 0 i
def kx355_c : fx_C := ([.inr (.inr 1), .inl (-2147483648, 2147483647)], [], [(some (.inl (-2147483648, 2147483647)), [.inr (.inr 1), .inl (-1, 4)], []), (some (.inl (-1, -1)), [.inr (.inr 1), .inl (-2147483648, 2147483647)], [])], [])
def kx355_a : List fx_N := []
def kx355_s : List fx_D := []
def kx355_x : fx_X := ([], [(66, 11, 8)], [], [], [], [(2, 131, 11, kx126_c), (19, 249, 10, kx353_c), (19, 249, 10, kx354_c)])
set_option maxRecDepth 100000 in
theorem kx355_k : fx_chk TX 3 kx355_c 0 kx355_x t_X11_mark kx355_a kx355_s 13 = true := by decide +kernel
set_option maxRecDepth 100000 in
theorem kx355 {l : Launch} {E : (Nat → Prop) → State → Prop} {ad : List Nat} {D : va_G} {gs : List Nat} {cy : Nat → ClassId} (h : fxX E D cy) : fx_Met l yX11_mark (.code yX11_mark cX11_mark 3 (some .int) :: wsL_law) ({ frames := 3, cells := 0, slots := 0, locals := 65 }) E (gs, TX, cy, fun _ => True) ad D classes kx355_c :=
  fx_sound (x := kx355_x) (tb := t_X11_mark) (an := kx355_a) (sp := kx355_s) (rk := 0) 13 h.1 (fun _ _ _ _ _ _ => trivial) (fun _ _ _ _ _ _ => trivial) (ht_tys cy) (by decide) rfl ⟨fx_an, (fx_ac fl_X11_66 (fx_an)), fx_an, fx_an, fx_an, (fx_ac (ev_V (kx126 h) (by decide) rfl ⟨by decide, by decide⟩ iV_X11_lineOf g_X11_131) (fx_ac (ev_V (kx353 h) (by decide) rfl ⟨by decide, by decide⟩ iV_X10_markOf g_X11_249) (fx_ac (ev_V (kx354 h) (by decide) rfl ⟨by decide, by decide⟩ iV_X10_markOf g_X11_249) (fx_an))))⟩ d_X11_mark kx355_k
-- X3_shiftedMark 8 64
def kx356_c : fx_C := ([.inr (.inr 9), .inr (.inr 65)], [], [(some (.inl (-2147483648, 2147483647)), [.inr (.inr 9), .inr (.inr 65)], [])], [])
def kx356_a : List fx_N := [(4, [(0, .inr (.inr 9)), (1, .inr (.inr 65)), (2, .inl (-2147483648, 2147483647)), (3, .inl (0, 8))], [], [(0, 0), (1, 3), (0, 0)], [(0, 0), (1, 1)])]
def kx356_s : List fx_D := []
def kx356_x : fx_X := ([], [(40, 1, 1)], [], [], [], [(19, 73, 1, kx118_c), (22, 76, 10, kx128_c)])
set_option maxRecDepth 100000 in
theorem kx356_k : fx_chk TX 4 kx356_c 0 kx356_x t_X3_shiftedMark kx356_a kx356_s 21 = true := by decide +kernel
set_option maxRecDepth 100000 in
theorem kx356 {l : Launch} {E : (Nat → Prop) → State → Prop} {ad : List Nat} {D : va_G} {gs : List Nat} {cy : Nat → ClassId} (h : fxX E D cy) : fx_Met l yX3_shiftedMark (.code yX3_shiftedMark cX3_shiftedMark 4 (some .int) :: wsL_law) ({ frames := 2, cells := 0, slots := 0, locals := 42 }) E (gs, TX, cy, fun _ => True) ad D classes kx356_c :=
  fx_sound (x := kx356_x) (tb := t_X3_shiftedMark) (an := kx356_a) (sp := kx356_s) (rk := 0) 21 h.1 (fun _ _ _ _ _ _ => trivial) (fun _ _ _ _ _ _ => trivial) (ht_tys cy) (by decide) rfl ⟨fx_an, (fx_ac fl_X3_40 (fx_an)), fx_an, fx_an, fx_an, (fx_ac (ev_V (kx118 h) (by decide) rfl ⟨by decide, by decide⟩ iV_X1_at g_X3_73) (fx_ac (ev_V (kx128 h) (by decide) rfl ⟨by decide, by decide⟩ iV_X10_worthOf g_X3_76) (fx_an)))⟩ d_X3_shiftedMark kx356_k
-- X3_isFirstPlace 64 i i
def kx357_c : fx_C := ([.inr (.inr 65), .inl (0, 8), .inl (0, 8)], [], [(some (.inl (1, 1)), [.inr (.inr 65), .inl (0, 8), .inl (0, 8)], []), (some (.inl (0, 0)), [.inr (.inr 65), .inl (1, 8), .inl (0, 8)], [((0, 1), .inl (1, 8))])], [])
def kx357_a : List fx_N := []
def kx357_s : List fx_D := []
def kx357_x : fx_X := ([], [], [], [], [], [(8, 73, 1, kx118_c)])
set_option maxRecDepth 100000 in
theorem kx357_k : fx_chk TX 3 kx357_c 3 kx357_x t_X3_isFirstPlace kx357_a kx357_s 14 = true := by decide +kernel
set_option maxRecDepth 100000 in
theorem kx357 {l : Launch} {E : (Nat → Prop) → State → Prop} {ad : List Nat} {D : va_G} {gs : List Nat} {cy : Nat → ClassId} (h : fxX E D cy) : fx_Met l yX3_isFirstPlace (.code yX3_isFirstPlace cX3_isFirstPlace 3 (some .boolean) :: wsL_law) ({ frames := 1, cells := 0, slots := 0, locals := 21 }) E (gs, TX, cy, fun _ => True) ad D classes kx357_c :=
  fx_sound (x := kx357_x) (tb := t_X3_isFirstPlace) (an := kx357_a) (sp := kx357_s) (rk := 3) 14 h.1 (fun _ _ _ _ _ _ => trivial) (fun _ _ _ _ _ _ => trivial) (ht_tys cy) (by decide) rfl ⟨fx_an, fx_an, fx_an, fx_an, fx_an, (fx_ac (ev_V (kx118 h) (by decide) rfl ⟨by decide, by decide⟩ iV_X1_at g_X3_73) (fx_an))⟩ d_X3_isFirstPlace kx357_k
-- X3_fits 8 i i i i
def kx358_c : fx_C := ([.inr (.inr 9), .inl (-2147483648, 2147483647), .inl (0, 12), .inl (0, 8), .inl (-2147483648, 2147483647)], [], [(some (.inl (1, 1)), [.inr (.inr 9), .inl (-2147483648, 2147483647), .inl (0, 12), .inl (0, 8), .inl (-2147483648, 2147483647)], []), (some (.inl (0, 0)), [.inr (.inr 9), .inl (-2147483648, 2147483647), .inl (0, 12), .inl (0, 8), .inl (-2147483648, 2147483647)], [])], [])
def kx358_a : List fx_N := []
def kx358_s : List fx_D := []
def kx358_x : fx_X := ([], [], [], [], [], [(6, 76, 10, kx128_c)])
set_option maxRecDepth 100000 in
theorem kx358_k : fx_chk TX 5 kx358_c 3 kx358_x t_X3_fits kx358_a kx358_s 18 = true := by decide +kernel
set_option maxRecDepth 100000 in
theorem kx358 {l : Launch} {E : (Nat → Prop) → State → Prop} {ad : List Nat} {D : va_G} {gs : List Nat} {cy : Nat → ClassId} (h : fxX E D cy) : fx_Met l yX3_fits (.code yX3_fits cX3_fits 5 (some .boolean) :: wsL_law) ({ frames := 2, cells := 0, slots := 0, locals := 42 }) E (gs, TX, cy, fun _ => True) ad D classes kx358_c :=
  fx_sound (x := kx358_x) (tb := t_X3_fits) (an := kx358_a) (sp := kx358_s) (rk := 3) 18 h.1 (fun _ _ _ _ _ _ => trivial) (fun _ _ _ _ _ _ => trivial) (ht_tys cy) (by decide) rfl ⟨fx_an, fx_an, fx_an, fx_an, fx_an, (fx_ac (ev_V (kx128 h) (by decide) rfl ⟨by decide, by decide⟩ iV_X10_worthOf g_X3_76) (fx_an))⟩ d_X3_fits kx358_k
-- X1_copy 11 64
def kx359_c : fx_C := ([.inr (.inr 12), .inr (.inr 65)], [], [(none, [.inr (.inr 12), .inr (.inr 65)], [])], [(1, 1), (1000, 14)])
def kx359_a : List fx_N := [(6, [(0, .inr (.inr 12)), (1, .inr (.inr 65)), (2, .inl (0, 8))], [], [(0, 0), (1, 2), (0, 0)], [(0, 0), (1, 1)])]
def kx359_s : List fx_D := []
def kx359_x : fx_X := ([], [(21, 1, 1)], [], [], [], [(1, 33, 1, kx4_c), (17, 36, 1, kx118_c), (20, 40, 1, kx101_c)])
set_option maxRecDepth 100000 in
theorem kx359_k : fx_chk TX 3 kx359_c 9 kx359_x t_X1_copy kx359_a kx359_s 14 = true := by decide +kernel
set_option maxRecDepth 100000 in
theorem kx359 {l : Launch} {E : (Nat → Prop) → State → Prop} {ad : List Nat} {D : va_G} {gs : List Nat} {cy : Nat → ClassId} (h : fxX E D cy) : fx_Met l yX1_copy (.code yX1_copy cX1_copy 3 none :: wsL_law) ({ frames := 2, cells := 0, slots := 0, locals := 41 }) E (gs, TX, cy, fun _ => True) ad D classes kx359_c :=
  fx_sound (x := kx359_x) (tb := t_X1_copy) (an := kx359_a) (sp := kx359_s) (rk := 9) 14 h.1 (fun _ _ _ _ _ _ => trivial) (fun _ _ _ _ _ _ => trivial) (ht_tys cy) (by decide) rfl ⟨fx_an, (fx_ac fl_X1_21 (fx_an)), fx_an, fx_an, fx_an, (fx_ac (ev_V (kx4 h) (by decide) rfl ⟨by decide, by decide⟩ iV_X1_clear g_X1_33) (fx_ac (ev_V (kx118 h) (by decide) rfl ⟨by decide, by decide⟩ iV_X1_at g_X1_36) (fx_ac (ev_V (kx101 h) (by decide) rfl ⟨by decide, by decide⟩ iV_X1_add g_X1_40) (fx_an))))⟩ d_X1_copy kx359_k
-- X3_keepFirst 5
def kx360_c : fx_C := ([.inr (.inr 6)], [], [(none, [.inr (.inr 6)], [])], [(1, 1), (1000, 14)])
def kx360_a : List fx_N := [(24, [(0, .inr (.inr 6)), (1, .inl (0, 12))], [((0, 2), .inr (.inr 12)), ((2, 1), .inl (1, 12))], [(0, 0), (1, 1), (0, 0)], [(0, 0)])]
def kx360_s : List fx_D := []
def kx360_x : fx_X := ([], [(20, 3, 1), (23, 3, 2), (40, 1, 1)], [], [], [], [(18, 30, 1, kx113_c), (40, 73, 1, kx112_c), (48, 73, 1, kx112_c), (59, 73, 1, kx112_c), (67, 73, 1, kx112_c), (81, 30, 1, kx113_c)])
set_option maxRecDepth 100000 in
theorem kx360_k : fx_chk TX 2 kx360_c 9 kx360_x t_X3_keepFirst kx360_a kx360_s 31 = true := by decide +kernel
set_option maxRecDepth 100000 in
theorem kx360 {l : Launch} {E : (Nat → Prop) → State → Prop} {ad : List Nat} {D : va_G} {gs : List Nat} {cy : Nat → ClassId} (h : fxX E D cy) : fx_Met l yX3_keepFirst (.code yX3_keepFirst cX3_keepFirst 2 none :: wsL_law) ({ frames := 3, cells := 0, slots := 0, locals := 63 }) E (gs, TX, cy, fun _ => True) ad D classes kx360_c :=
  fx_sound (x := kx360_x) (tb := t_X3_keepFirst) (an := kx360_a) (sp := kx360_s) (rk := 9) 31 h.1 (fun _ _ _ _ _ _ => trivial) (fun _ _ _ _ _ _ => trivial) (ht_tys cy) (by decide) rfl ⟨fx_an, (fx_ac fl_X3_20 (fx_ac fl_X3_23 (fx_ac fl_X3_40 (fx_an)))), fx_an, fx_an, fx_an, (fx_ac (ev_V (kx113 h) (by decide) rfl ⟨by decide, by decide⟩ iV_X1_copy g_X3_30) (fx_ac (ev_V (kx112 h) (by decide) rfl ⟨by decide, by decide⟩ iV_X1_at g_X3_73) (fx_ac (ev_V (kx112 h) (by decide) rfl ⟨by decide, by decide⟩ iV_X1_at g_X3_73) (fx_ac (ev_V (kx112 h) (by decide) rfl ⟨by decide, by decide⟩ iV_X1_at g_X3_73) (fx_ac (ev_V (kx112 h) (by decide) rfl ⟨by decide, by decide⟩ iV_X1_at g_X3_73) (fx_ac (ev_V (kx113 h) (by decide) rfl ⟨by decide, by decide⟩ iV_X1_copy g_X3_30) (fx_an)))))))⟩ d_X3_keepFirst kx360_k
-- X3_countMended 5 8 64 i
def kx361_c : fx_C := ([.inr (.inr 6), .inr (.inr 9), .inr (.inr 65), .inl (0, 99)], [], [(some (.inl (-2147483648, 2147483647)), [.inr (.inr 6), .inr (.inr 9), .inr (.inr 65), .inl (0, 99)], [])], [(1, 1), (1000, 14)])
def kx361_a : List fx_N := [(20, [(0, .inr (.inr 6)), (1, .inr (.inr 9)), (2, .inr (.inr 65)), (3, .inl (0, 99)), (4, .inl (-2147483648, 2147483647)), (5, .inl (-2147483648, 2147483647)), (6, .inl (0, 9))], [], [(0, 0), (1, 6), (0, 1), (0, 0), (0, 0)], [(0, 0), (1, 1), (2, 2), (3, 3)]), (32, [(0, .inr (.inr 6)), (1, .inr (.inr 9)), (2, .inr (.inr 65)), (3, .inl (0, 99)), (4, .inl (-2147483648, 2147483647)), (5, .inl (-2147483648, 2147483647)), (6, .inl (0, 8)), (7, .inl (0, 9))], [], [(0, 0), (1, 6), (0, 0), (1, 7), (0, 0)], [(0, 0), (1, 1), (2, 2), (3, 3)])]
def kx361_s : List fx_D := []
def kx361_x : fx_X := ([], [(20, 3, 1), (23, 3, 2), (40, 1, 1), (55, 10, 7)], [], [], [], [(7, 48, 1, kx4_c), (12, 51, 1000, kx356_c), (46, 58, 1000, kx357_c), (60, 62, 1000, kx358_c), (74, 30, 1, kx359_c), (85, 66, 1, kx159_c), (89, 70, 3, kx360_c), (104, 73, 1, kx118_c), (107, 76, 10, kx128_c)])
set_option maxRecDepth 100000 in
theorem kx361_k : fx_chk TX 8 kx361_c 0 kx361_x t_X3_countMended kx361_a kx361_s 33 = true := by decide +kernel
set_option maxRecDepth 100000 in
theorem kx361 {l : Launch} {E : (Nat → Prop) → State → Prop} {ad : List Nat} {D : va_G} {gs : List Nat} {cy : Nat → ClassId} (h : fxX E D cy) : fx_Met l yX3_countMended (.code yX3_countMended cX3_countMended 8 (some .int) :: wsL_law) ({ frames := 4, cells := 0, slots := 0, locals := 84 }) E (gs, TX, cy, fun _ => True) ad D classes kx361_c :=
  fx_sound (x := kx361_x) (tb := t_X3_countMended) (an := kx361_a) (sp := kx361_s) (rk := 0) 33 h.1 (fun _ _ _ _ _ _ => trivial) (fun _ _ _ _ _ _ => trivial) (ht_tys cy) (by decide) rfl ⟨fx_an, (fx_ac fl_X3_20 (fx_ac fl_X3_23 (fx_ac fl_X3_40 (fx_ac fl_X3_55 (fx_an))))), fx_an, fx_an, fx_an, (fx_ac (ev_V (kx4 h) (by decide) rfl ⟨by decide, by decide⟩ iV_X1_clear g_X3_48) (fx_ac (ev_S (kx356 h) ⟨by decide, by decide⟩ iS_X3_shiftedMark g_X3_51) (fx_ac (ev_S (kx357 h) ⟨by decide, by decide⟩ iS_X3_isFirstPlace g_X3_58) (fx_ac (ev_S (kx358 h) ⟨by decide, by decide⟩ iS_X3_fits g_X3_62) (fx_ac (ev_V (kx359 h) (by decide) rfl ⟨by decide, by decide⟩ iV_X1_copy g_X3_30) (fx_ac (ev_V (kx159 h) (by decide) rfl ⟨by decide, by decide⟩ iV_X1_insert g_X3_66) (fx_ac (ev_V (kx360 h) (by decide) rfl ⟨by decide, by decide⟩ iV_X3_keepFirst g_X3_70) (fx_ac (ev_V (kx118 h) (by decide) rfl ⟨by decide, by decide⟩ iV_X1_at g_X3_73) (fx_ac (ev_V (kx128 h) (by decide) rfl ⟨by decide, by decide⟩ iV_X10_worthOf g_X3_76) (fx_an))))))))))⟩ d_X3_countMended kx361_k
-- X1_copy 12 11
def kx362_c : fx_C := ([.inr (.inr 13), .inr (.inr 12)], [], [(none, [.inr (.inr 13), .inr (.inr 12)], [])], [(1, 1), (1000, 15)])
def kx362_a : List fx_N := [(6, [(0, .inr (.inr 13)), (1, .inr (.inr 12)), (2, .inl (0, 12))], [], [(0, 0), (1, 2), (0, 0)], [(0, 0), (1, 1)])]
def kx362_s : List fx_D := []
def kx362_x : fx_X := ([], [(21, 1, 1)], [], [], [], [(1, 33, 1, kx111_c), (17, 36, 1, kx112_c), (20, 40, 1, kx189_c)])
set_option maxRecDepth 100000 in
theorem kx362_k : fx_chk TX 3 kx362_c 9 kx362_x t_X1_copy kx362_a kx362_s 14 = true := by decide +kernel
set_option maxRecDepth 100000 in
theorem kx362 {l : Launch} {E : (Nat → Prop) → State → Prop} {ad : List Nat} {D : va_G} {gs : List Nat} {cy : Nat → ClassId} (h : fxX E D cy) : fx_Met l yX1_copy (.code yX1_copy cX1_copy 3 none :: wsL_law) ({ frames := 2, cells := 0, slots := 0, locals := 41 }) E (gs, TX, cy, fun _ => True) ad D classes kx362_c :=
  fx_sound (x := kx362_x) (tb := t_X1_copy) (an := kx362_a) (sp := kx362_s) (rk := 9) 14 h.1 (fun _ _ _ _ _ _ => trivial) (fun _ _ _ _ _ _ => trivial) (ht_tys cy) (by decide) rfl ⟨fx_an, (fx_ac fl_X1_21 (fx_an)), fx_an, fx_an, fx_an, (fx_ac (ev_V (kx111 h) (by decide) rfl ⟨by decide, by decide⟩ iV_X1_clear g_X1_33) (fx_ac (ev_V (kx112 h) (by decide) rfl ⟨by decide, by decide⟩ iV_X1_at g_X1_36) (fx_ac (ev_V (kx189 h) (by decide) rfl ⟨by decide, by decide⟩ iV_X1_add g_X1_40) (fx_an))))⟩ d_X1_copy kx362_k
-- X3_layMended 5 8 64 i 12
def kx363_c : fx_C := ([.inr (.inr 6), .inr (.inr 9), .inr (.inr 65), .inl (0, 99), .inr (.inr 13)], [], [(some (.inl (-2147483648, 2147483647)), [.inr (.inr 6), .inr (.inr 9), .inr (.inr 65), .inl (0, 99), .inr (.inr 13)], [])], [(1, 1), (1000, 14), (1000, 15)])
def kx363_a : List fx_N := []
def kx363_s : List fx_D := []
def kx363_x : fx_X := ([], [(23, 3, 2)], [], [], [], [(4, 26, 3, kx361_c), (15, 30, 1, kx362_c)])
set_option maxRecDepth 100000 in
theorem kx363_k : fx_chk TX 6 kx363_c 0 kx363_x t_X3_layMended kx363_a kx363_s 14 = true := by decide +kernel
set_option maxRecDepth 100000 in
theorem kx363 {l : Launch} {E : (Nat → Prop) → State → Prop} {ad : List Nat} {D : va_G} {gs : List Nat} {cy : Nat → ClassId} (h : fxX E D cy) : fx_Met l yX3_layMended (.code yX3_layMended cX3_layMended 6 (some .int) :: wsL_law) ({ frames := 5, cells := 0, slots := 0, locals := 111 }) E (gs, TX, cy, fun _ => True) ad D classes kx363_c :=
  fx_sound (x := kx363_x) (tb := t_X3_layMended) (an := kx363_a) (sp := kx363_s) (rk := 0) 14 h.1 (fun _ _ _ _ _ _ => trivial) (fun _ _ _ _ _ _ => trivial) (ht_tys cy) (by decide) rfl ⟨fx_an, (fx_ac fl_X3_23 (fx_an)), fx_an, fx_an, fx_an, (fx_ac (ev_V (kx361 h) (by decide) rfl ⟨by decide, by decide⟩ iV_X3_countMended g_X3_26) (fx_ac (ev_V (kx362 h) (by decide) rfl ⟨by decide, by decide⟩ iV_X1_copy g_X3_30) (fx_an)))⟩ d_X3_layMended kx363_k
-- X11_mended 0 i i
def kx364_c : fx_C := ([.inr (.inr 1), .inl (-2147483648, 2147483647), .inl (-2147483648, 2147483647)], [], [(some (.inl (-1, -1)), [.inr (.inr 1), .inl (-2147483648, 2147483647), .inl (-2147483648, 2147483647)], [((0, 6), .inr (.inr 13)), ((3, 1), .inl (0, 0))]), (some (.inl (-2147483648, 2147483647)), [.inr (.inr 1), .inl (0, 4), .inl (0, 99)], [((0, 8), .inr (.inr 9)), ((3, 9), .inl (1, 5))])], [(1, 1), (1000, 14), (1000, 15)])
def kx364_a : List fx_N := []
def kx364_s : List fx_D := []
def kx364_x : fx_X := ([], [(40, 11, 4), (56, 11, 6), (66, 11, 8)], [], [], [], [(4, 95, 1, kx111_c), (9, 127, 11, kx124_c), (43, 252, 3, kx363_c)])
set_option maxRecDepth 100000 in
theorem kx364_k : fx_chk TX 4 kx364_c 0 kx364_x t_X11_mended kx364_a kx364_s 26 = true := by decide +kernel
set_option maxRecDepth 100000 in
theorem kx364 {l : Launch} {E : (Nat → Prop) → State → Prop} {ad : List Nat} {D : va_G} {gs : List Nat} {cy : Nat → ClassId} (h : fxX E D cy) : fx_Met l yX11_mended (.code yX11_mended cX11_mended 4 (some .int) :: wsL_law) ({ frames := 6, cells := 0, slots := 0, locals := 136 }) E (gs, TX, cy, fun _ => True) ad D classes kx364_c :=
  fx_sound (x := kx364_x) (tb := t_X11_mended) (an := kx364_a) (sp := kx364_s) (rk := 0) 26 h.1 (fun _ _ _ _ _ _ => trivial) (fun _ _ _ _ _ _ => trivial) (ht_tys cy) (by decide) rfl ⟨fx_an, (fx_ac fl_X11_40 (fx_ac fl_X11_56 (fx_ac fl_X11_66 (fx_an)))), fx_an, fx_an, fx_an, (fx_ac (ev_V (kx111 h) (by decide) rfl ⟨by decide, by decide⟩ iV_X1_clear g_X11_95) (fx_ac (ev_V (kx124 h) (by decide) rfl ⟨by decide, by decide⟩ iV_X11_slipOf g_X11_127) (fx_ac (ev_V (kx363 h) (by decide) rfl ⟨by decide, by decide⟩ iV_X3_layMended g_X11_252) (fx_an))))⟩ d_X11_mended kx364_k
-- X3_shiftedMark 8 11
def kx365_c : fx_C := ([.inr (.inr 9), .inr (.inr 12)], [], [(some (.inl (-2147483648, 2147483647)), [.inr (.inr 9), .inr (.inr 12)], [])], [])
def kx365_a : List fx_N := [(4, [(0, .inr (.inr 9)), (1, .inr (.inr 12)), (2, .inl (-2147483648, 2147483647)), (3, .inl (0, 12))], [], [(0, 0), (1, 3), (0, 0)], [(0, 0), (1, 1)])]
def kx365_s : List fx_D := []
def kx365_x : fx_X := ([], [(40, 1, 1)], [], [], [], [(19, 73, 1, kx112_c), (22, 76, 10, kx128_c)])
set_option maxRecDepth 100000 in
theorem kx365_k : fx_chk TX 4 kx365_c 0 kx365_x t_X3_shiftedMark kx365_a kx365_s 21 = true := by decide +kernel
set_option maxRecDepth 100000 in
theorem kx365 {l : Launch} {E : (Nat → Prop) → State → Prop} {ad : List Nat} {D : va_G} {gs : List Nat} {cy : Nat → ClassId} (h : fxX E D cy) : fx_Met l yX3_shiftedMark (.code yX3_shiftedMark cX3_shiftedMark 4 (some .int) :: wsL_law) ({ frames := 2, cells := 0, slots := 0, locals := 42 }) E (gs, TX, cy, fun _ => True) ad D classes kx365_c :=
  fx_sound (x := kx365_x) (tb := t_X3_shiftedMark) (an := kx365_a) (sp := kx365_s) (rk := 0) 21 h.1 (fun _ _ _ _ _ _ => trivial) (fun _ _ _ _ _ _ => trivial) (ht_tys cy) (by decide) rfl ⟨fx_an, (fx_ac fl_X3_40 (fx_an)), fx_an, fx_an, fx_an, (fx_ac (ev_V (kx112 h) (by decide) rfl ⟨by decide, by decide⟩ iV_X1_at g_X3_73) (fx_ac (ev_V (kx128 h) (by decide) rfl ⟨by decide, by decide⟩ iV_X10_worthOf g_X3_76) (fx_an)))⟩ d_X3_shiftedMark kx365_k
-- X3_isFirstPlace 11 i i
def kx366_c : fx_C := ([.inr (.inr 12), .inl (0, 12), .inl (0, 8)], [], [(some (.inl (1, 1)), [.inr (.inr 12), .inl (0, 12), .inl (0, 8)], []), (some (.inl (0, 0)), [.inr (.inr 12), .inl (1, 12), .inl (0, 8)], [((0, 1), .inl (1, 12))])], [])
def kx366_a : List fx_N := []
def kx366_s : List fx_D := []
def kx366_x : fx_X := ([], [], [], [], [], [(8, 73, 1, kx112_c)])
set_option maxRecDepth 100000 in
theorem kx366_k : fx_chk TX 3 kx366_c 3 kx366_x t_X3_isFirstPlace kx366_a kx366_s 14 = true := by decide +kernel
set_option maxRecDepth 100000 in
theorem kx366 {l : Launch} {E : (Nat → Prop) → State → Prop} {ad : List Nat} {D : va_G} {gs : List Nat} {cy : Nat → ClassId} (h : fxX E D cy) : fx_Met l yX3_isFirstPlace (.code yX3_isFirstPlace cX3_isFirstPlace 3 (some .boolean) :: wsL_law) ({ frames := 1, cells := 0, slots := 0, locals := 21 }) E (gs, TX, cy, fun _ => True) ad D classes kx366_c :=
  fx_sound (x := kx366_x) (tb := t_X3_isFirstPlace) (an := kx366_a) (sp := kx366_s) (rk := 3) 14 h.1 (fun _ _ _ _ _ _ => trivial) (fun _ _ _ _ _ _ => trivial) (ht_tys cy) (by decide) rfl ⟨fx_an, fx_an, fx_an, fx_an, fx_an, (fx_ac (ev_V (kx112 h) (by decide) rfl ⟨by decide, by decide⟩ iV_X1_at g_X3_73) (fx_an))⟩ d_X3_isFirstPlace kx366_k
-- X3_countMended 5 8 11 i
def kx367_c : fx_C := ([.inr (.inr 6), .inr (.inr 9), .inr (.inr 12), .inl (-2147483648, 2147483647)], [], [(some (.inl (-2147483648, 2147483647)), [.inr (.inr 6), .inr (.inr 9), .inr (.inr 12), .inl (-2147483648, 2147483647)], [])], [(1, 1), (1000, 14)])
def kx367_a : List fx_N := [(20, [(0, .inr (.inr 6)), (1, .inr (.inr 9)), (2, .inr (.inr 12)), (3, .inl (-2147483648, 2147483647)), (4, .inl (-2147483648, 2147483647)), (5, .inl (-2147483648, 2147483647)), (6, .inl (0, 14))], [], [(0, 0), (1, 6), (0, 1), (0, 0), (0, 0)], [(0, 0), (1, 1), (2, 2), (3, 3)]), (32, [(0, .inr (.inr 6)), (1, .inr (.inr 9)), (2, .inr (.inr 12)), (3, .inl (-2147483648, 2147483647)), (4, .inl (-2147483648, 2147483647)), (5, .inl (-2147483648, 2147483647)), (6, .inl (0, 12)), (7, .inl (0, 9))], [], [(0, 0), (1, 6), (0, 0), (1, 7), (0, 0)], [(0, 0), (1, 1), (2, 2), (3, 3)])]
def kx367_s : List fx_D := []
def kx367_x : fx_X := ([], [(20, 3, 1), (23, 3, 2), (40, 1, 1), (55, 10, 7)], [], [], [], [(7, 48, 1, kx4_c), (12, 51, 1000, kx365_c), (46, 58, 1000, kx366_c), (60, 62, 1000, kx358_c), (74, 30, 1, kx113_c), (85, 66, 1, kx159_c), (89, 70, 3, kx360_c), (104, 73, 1, kx112_c), (107, 76, 10, kx128_c)])
set_option maxRecDepth 100000 in
theorem kx367_k : fx_chk TX 8 kx367_c 0 kx367_x t_X3_countMended kx367_a kx367_s 33 = true := by decide +kernel
set_option maxRecDepth 100000 in
theorem kx367 {l : Launch} {E : (Nat → Prop) → State → Prop} {ad : List Nat} {D : va_G} {gs : List Nat} {cy : Nat → ClassId} (h : fxX E D cy) : fx_Met l yX3_countMended (.code yX3_countMended cX3_countMended 8 (some .int) :: wsL_law) ({ frames := 4, cells := 0, slots := 0, locals := 84 }) E (gs, TX, cy, fun _ => True) ad D classes kx367_c :=
  fx_sound (x := kx367_x) (tb := t_X3_countMended) (an := kx367_a) (sp := kx367_s) (rk := 0) 33 h.1 (fun _ _ _ _ _ _ => trivial) (fun _ _ _ _ _ _ => trivial) (ht_tys cy) (by decide) rfl ⟨fx_an, (fx_ac fl_X3_20 (fx_ac fl_X3_23 (fx_ac fl_X3_40 (fx_ac fl_X3_55 (fx_an))))), fx_an, fx_an, fx_an, (fx_ac (ev_V (kx4 h) (by decide) rfl ⟨by decide, by decide⟩ iV_X1_clear g_X3_48) (fx_ac (ev_S (kx365 h) ⟨by decide, by decide⟩ iS_X3_shiftedMark g_X3_51) (fx_ac (ev_S (kx366 h) ⟨by decide, by decide⟩ iS_X3_isFirstPlace g_X3_58) (fx_ac (ev_S (kx358 h) ⟨by decide, by decide⟩ iS_X3_fits g_X3_62) (fx_ac (ev_V (kx113 h) (by decide) rfl ⟨by decide, by decide⟩ iV_X1_copy g_X3_30) (fx_ac (ev_V (kx159 h) (by decide) rfl ⟨by decide, by decide⟩ iV_X1_insert g_X3_66) (fx_ac (ev_V (kx360 h) (by decide) rfl ⟨by decide, by decide⟩ iV_X3_keepFirst g_X3_70) (fx_ac (ev_V (kx112 h) (by decide) rfl ⟨by decide, by decide⟩ iV_X1_at g_X3_73) (fx_ac (ev_V (kx128 h) (by decide) rfl ⟨by decide, by decide⟩ iV_X10_worthOf g_X3_76) (fx_an))))))))))⟩ d_X3_countMended kx367_k
-- X3_safePlaces 5 8 11
def kx368_c : fx_C := ([.inr (.inr 6), .inr (.inr 9), .inr (.inr 12)], [], [(some (.inl (0, 4095)), [.inr (.inr 6), .inr (.inr 9), .inr (.inr 12)], [])], [(1, 1), (1000, 14)])
def kx368_a : List fx_N := [(12, [(0, .inr (.inr 6)), (1, .inr (.inr 9)), (2, .inr (.inr 12)), (3, .inl (-2147483648, 2147483647)), (4, .inl (0, 4095)), (5, .inl (0, 12))], [], [(0, 0), (1, 5), (0, 0)], [(0, 0), (1, 1), (2, 2)])]
def kx368_s : List fx_D := []
def kx368_x : fx_X := ([], [(14, 3, 0), (40, 1, 1)], [], [], [], [(2, 34, 10, kx354_c), (26, 30, 1, kx113_c), (35, 44, 1, kx151_c), (46, 26, 3, kx367_c)])
set_option maxRecDepth 100000 in
theorem kx368_k : fx_chk TX 6 kx368_c 0 kx368_x t_X3_safePlaces kx368_a kx368_s 32 = true := by decide +kernel
set_option maxRecDepth 100000 in
theorem kx368 {l : Launch} {E : (Nat → Prop) → State → Prop} {ad : List Nat} {D : va_G} {gs : List Nat} {cy : Nat → ClassId} (h : fxX E D cy) : fx_Met l yX3_safePlaces (.code yX3_safePlaces cX3_safePlaces 6 (some .int) :: wsL_law) ({ frames := 5, cells := 0, slots := 0, locals := 111 }) E (gs, TX, cy, fun _ => True) ad D classes kx368_c :=
  fx_sound (x := kx368_x) (tb := t_X3_safePlaces) (an := kx368_a) (sp := kx368_s) (rk := 0) 32 h.1 (fun _ _ _ _ _ _ => trivial) (fun _ _ _ _ _ _ => trivial) (ht_tys cy) (by decide) rfl ⟨fx_an, (fx_ac fl_X3_14 (fx_ac fl_X3_40 (fx_an))), fx_an, fx_an, fx_an, (fx_ac (ev_V (kx354 h) (by decide) rfl ⟨by decide, by decide⟩ iV_X10_markOf g_X3_34) (fx_ac (ev_V (kx113 h) (by decide) rfl ⟨by decide, by decide⟩ iV_X1_copy g_X3_30) (fx_ac (ev_V (kx151 h) (by decide) rfl ⟨by decide, by decide⟩ iV_X1_drop g_X3_44) (fx_ac (ev_V (kx367 h) (by decide) rfl ⟨by decide, by decide⟩ iV_X3_countMended g_X3_26) (fx_an)))))⟩ d_X3_safePlaces kx368_k
-- X11_safe 0
def kx369_c : fx_C := ([.inr (.inr 1)], [], [(some (.inl (0, 4095)), [.inr (.inr 1)], [])], [(1, 1), (1000, 14)])
def kx369_a : List fx_N := []
def kx369_s : List fx_D := []
def kx369_x : fx_X := ([], [(19, 11, 1), (40, 11, 4), (66, 11, 8), (114, 5, 0), (118, 8, 0)], [], [], [], [(18, 256, 3, kx368_c)])
set_option maxRecDepth 100000 in
theorem kx369_k : fx_chk TX 1 kx369_c 0 kx369_x t_X11_safe kx369_a kx369_s 12 = true := by decide +kernel
set_option maxRecDepth 100000 in
theorem kx369 {l : Launch} {E : (Nat → Prop) → State → Prop} {ad : List Nat} {D : va_G} {gs : List Nat} {cy : Nat → ClassId} (h : fxX E D cy) : fx_Met l yX11_safe (.code yX11_safe cX11_safe 1 (some .int) :: wsL_law) ({ frames := 6, cells := 0, slots := 0, locals := 136 }) E (gs, TX, cy, fun _ => True) ad D classes kx369_c :=
  fx_sound (x := kx369_x) (tb := t_X11_safe) (an := kx369_a) (sp := kx369_s) (rk := 0) 12 h.1 (fun _ _ _ _ _ _ => trivial) (fun _ _ _ _ _ _ => trivial) (ht_tys cy) (by decide) rfl ⟨fx_an, (fx_ac fl_X11_19 (fx_ac fl_X11_40 (fx_ac fl_X11_66 (fx_ac fl_X11_114 (fx_ac fl_X11_118 (fx_an)))))), fx_an, fx_an, fx_an, (fx_ac (ev_V (kx368 h) (by decide) rfl ⟨by decide, by decide⟩ iV_X3_safePlaces g_X11_256) (fx_an))⟩ d_X11_safe kx369_k
-- X1_clear 13
def kx370_c : fx_C := ([.inr (.inr 14)], [], [(none, [.inr (.inr 14)], [((0, 1), .inl (0, 0))])], [(1, 1)])
def kx370_a : List fx_N := []
def kx370_s : List fx_D := []
def kx370_x : fx_X := ([], [], [(21, 1, 1, 0)], [], [], [])
set_option maxRecDepth 100000 in
theorem kx370_k : fx_chk TX 1 kx370_c 9 kx370_x t_X1_clear kx370_a kx370_s 6 = true := by decide +kernel
set_option maxRecDepth 100000 in
theorem kx370 {l : Launch} {E : (Nat → Prop) → State → Prop} {ad : List Nat} {D : va_G} {gs : List Nat} {cy : Nat → ClassId} (h : fxX E D cy) : fx_Met l yX1_clear (.code yX1_clear cX1_clear 1 none :: wsL_law) ({ frames := 0, cells := 0, slots := 0, locals := 0 }) E (gs, TX, cy, fun _ => True) ad D classes kx370_c :=
  fx_sound (x := kx370_x) (tb := t_X1_clear) (an := kx370_a) (sp := kx370_s) (rk := 9) 6 h.1 (fun _ _ _ _ _ _ => trivial) (fun _ _ _ _ _ _ => trivial) (ht_tys cy) (by decide) rfl ⟨fx_an, fx_an, (fx_ac pl_X1_21 (fx_an)), fx_an, fx_an, fx_an⟩ d_X1_clear kx370_k
-- J7_fill_53178 43 i
def kx371_c : fx_C := ([.inr (.inr 44), .inl (0, 0)], [], [(none, [.inr (.inr 44), .inl (0, 0)], [])], [(1000, 43)])
def kx371_a : List fx_N := [(5, [(0, .inr (.inr 44)), (1, .inl (0, 0)), (2, .inl (0, 25)), (3, .inl (25, 25))], [], [(0, 0), (1, 2), (0, 0)], [(0, 0), (1, 1)])]
def kx371_s : List fx_D := []
def kx371_x : fx_X := ([], [], [], [], [], [])
set_option maxRecDepth 100000 in
theorem kx371_k : fx_chk TX 4 kx371_c 9 kx371_x t_J7_fill_53178 kx371_a kx371_s 12 = true := by decide +kernel
set_option maxRecDepth 100000 in
theorem kx371 {l : Launch} {E : (Nat → Prop) → State → Prop} {ad : List Nat} {D : va_G} {gs : List Nat} {cy : Nat → ClassId} (h : fxX E D cy) : fx_Met l yJ7_fill_53178 (.code yJ7_fill_53178 cJ7_fill_53178 4 none :: wsL_law) ({ frames := 0, cells := 0, slots := 0, locals := 0 }) E (gs, TX, cy, fun _ => True) ad D classes kx371_c :=
  fx_sound (x := kx371_x) (tb := t_J7_fill_53178) (an := kx371_a) (sp := kx371_s) (rk := 9) 12 h.1 (fun _ _ _ _ _ _ => trivial) (fun _ _ _ _ _ _ => trivial) (ht_tys cy) (by decide) rfl ⟨fx_an, fx_an, fx_an, fx_an, fx_an, fx_an⟩ d_J7_fill_53178 kx371_k
-- J7_fill_53178 41 i
def kx372_c : fx_C := ([.inr (.inr 42), .inl (0, 0)], [], [(none, [.inr (.inr 42), .inl (0, 0)], [])], [(1000, 41)])
def kx372_a : List fx_N := [(5, [(0, .inr (.inr 42)), (1, .inl (0, 0)), (2, .inl (0, 5)), (3, .inl (5, 5))], [], [(0, 0), (1, 2), (0, 0)], [(0, 0), (1, 1)])]
def kx372_s : List fx_D := []
def kx372_x : fx_X := ([], [], [], [], [], [])
set_option maxRecDepth 100000 in
theorem kx372_k : fx_chk TX 4 kx372_c 9 kx372_x t_J7_fill_53178 kx372_a kx372_s 12 = true := by decide +kernel
set_option maxRecDepth 100000 in
theorem kx372 {l : Launch} {E : (Nat → Prop) → State → Prop} {ad : List Nat} {D : va_G} {gs : List Nat} {cy : Nat → ClassId} (h : fxX E D cy) : fx_Met l yJ7_fill_53178 (.code yJ7_fill_53178 cJ7_fill_53178 4 none :: wsL_law) ({ frames := 0, cells := 0, slots := 0, locals := 0 }) E (gs, TX, cy, fun _ => True) ad D classes kx372_c :=
  fx_sound (x := kx372_x) (tb := t_J7_fill_53178) (an := kx372_a) (sp := kx372_s) (rk := 9) 12 h.1 (fun _ _ _ _ _ _ => trivial) (fun _ _ _ _ _ _ => trivial) (ht_tys cy) (by decide) rfl ⟨fx_an, fx_an, fx_an, fx_an, fx_an, fx_an⟩ d_J7_fill_53178 kx372_k
