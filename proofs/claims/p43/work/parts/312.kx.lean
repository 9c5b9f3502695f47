-- X11_duel 0 i i
def kx311_c : fx_C := ([.inr (.inr 1), .inl (-2147483648, 2147483647), .inl (-2147483648, 2147483647)], [], [(some (.inl (-1000000, -1000000)), [.inr (.inr 1), .inl (-2147483648, 2147483647), .inl (-2147483648, 2147483647)], []), (some (.inl (-2147483648, 2147483647)), [.inr (.inr 1), .inl (1, 4), .inl (0, 1)], [((0, 1), .inr (.inr 3)), ((3, 0), .inr (.inr 11)), ((4, 0), .inr (.inr 12)), ((5, 1), .inl (1, 12))])], [(1000, 35)])
def kx311_a : List fx_N := []
def kx311_s : List fx_D := []
def kx311_x : fx_X := ([], [(19, 11, 1), (33, 11, 3), (66, 11, 8), (114, 5, 0), (118, 8, 0), (134, 1, 1)], [], [(147, -1000000)], [], [(30, 193, 1000, kx176_c), (49, 225, 2, kx308_c), (60, 229, 2, kx309_c), (71, 232, 2, kx310_c)])
set_option maxRecDepth 100000 in
theorem kx311_k : fx_chk TX 4 kx311_c 0 kx311_x t_X11_duel kx311_a kx311_s 34 = true := by decide +kernel
set_option maxRecDepth 100000 in
theorem kx311 {l : Launch} {E : (Nat → Prop) → State → Prop} {ad : List Nat} {D : va_G} {gs : List Nat} {cy : Nat → ClassId} (h : fx_env E D classes (tys cy) nestW) : fx_Met l yX11_duel (.code yX11_duel cX11_duel 4 (some .int) :: wsL_law) ({ frames := 4, cells := 0, slots := 0, locals := 96 }) E (gs, TX, cy, fun _ => True) ad D classes kx311_c :=
  fx_sound (x := kx311_x) (tb := t_X11_duel) (an := kx311_a) (sp := kx311_s) (rk := 0) 34 h (fun _ _ _ _ => trivial) (ht_tys cy) (by decide) rfl ⟨fx_an, (fx_ac fl_X11_19 (fx_ac fl_X11_33 (fx_ac fl_X11_66 (fx_ac fl_X11_114 (fx_ac fl_X11_118 (fx_ac fl_X11_134 (fx_an))))))), fx_an, (fx_ac kc_X11_147 (fx_an)), fx_an, (fx_ac (ev_S (kx176 h) ⟨by decide, by decide⟩ iS_X11_isPart g_X11_193) (fx_ac (ev_V (kx308 h) (by decide) rfl ⟨by decide, by decide⟩ iV_X2_playDuel g_X11_225) (fx_ac (ev_V (kx309 h) (by decide) rfl ⟨by decide, by decide⟩ iV_X2_duelSense g_X11_229) (fx_ac (ev_V (kx310 h) (by decide) rfl ⟨by decide, by decide⟩ iV_X2_duelPlace g_X11_232) (fx_an)))))⟩ d_X11_duel kx311_k
-- X4_editsTo 3 64 64 i i
def kx312_c : fx_C := ([.inr (.inr 4), .inr (.inr 65), .inr (.inr 65), .inl (0, 8), .inl (0, 8)], [], [(some (.inl (-2147483648, 2147483647)), [.inr (.inr 4), .inr (.inr 65), .inr (.inr 65), .inl (0, 8), .inl (0, 8)], [])], [])
def kx312_a : List fx_N := []
def kx312_s : List fx_D := []
def kx312_x : fx_X := ([], [], [], [], [], [(22, 67, 4, kx210_c), (29, 43, 1, kx118_c), (37, 43, 1, kx118_c), (59, 67, 4, kx210_c), (68, 67, 4, kx210_c), (71, 53, 1002, ([], [], [], [])), (76, 53, 1002, ([], [], [], []))])
set_option maxRecDepth 100000 in
theorem kx312_k : fx_chk TX 6 kx312_c 0 kx312_x t_X4_editsTo kx312_a kx312_s 47 = true := by decide +kernel
set_option maxRecDepth 100000 in
theorem kx312 {l : Launch} {E : (Nat → Prop) → State → Prop} {ad : List Nat} {D : va_G} {gs : List Nat} {cy : Nat → ClassId} (h : fx_env E D classes (tys cy) nestW) : fx_Met l yX4_editsTo (.code yX4_editsTo cX4_editsTo 6 (some .int) :: wsL_law) ({ frames := 2, cells := 0, slots := 0, locals := 43 }) E (gs, TX, cy, fun _ => True) ad D classes kx312_c :=
  fx_sound (x := kx312_x) (tb := t_X4_editsTo) (an := kx312_a) (sp := kx312_s) (rk := 0) 47 h (fun _ _ _ _ => trivial) (ht_tys cy) (by decide) rfl ⟨fx_an, fx_an, fx_an, fx_an, fx_an, (fx_ac (ev_V (kx210 h) (by decide) rfl ⟨by decide, by decide⟩ iV_X4_read g_X4_67) (fx_ac (ev_V (kx118 h) (by decide) rfl ⟨by decide, by decide⟩ iV_X1_at g_X4_43) (fx_ac (ev_V (kx118 h) (by decide) rfl ⟨by decide, by decide⟩ iV_X1_at g_X4_43) (fx_ac (ev_V (kx210 h) (by decide) rfl ⟨by decide, by decide⟩ iV_X4_read g_X4_67) (fx_ac (ev_V (kx210 h) (by decide) rfl ⟨by decide, by decide⟩ iV_X4_read g_X4_67) (fx_ac (ev_M (by decide) ⟨by decide, by decide, m_137, m_1107, m_396, m_397⟩) (fx_ac (ev_M (by decide) ⟨by decide, by decide, m_137, m_1107, m_396, m_397⟩) (fx_an))))))))⟩ d_X4_editsTo kx312_k
-- X4_countEdits 3 64 64
def kx313_c : fx_C := ([.inr (.inr 4), .inr (.inr 65), .inr (.inr 65)], [], [(some (.inl (-2147483648, 2147483647)), [.inr (.inr 4), .inr (.inr 65), .inr (.inr 65)], [])], [(1000, 31)])
def kx313_a : List fx_N := [(2, [(0, .inr (.inr 4)), (1, .inr (.inr 65)), (2, .inr (.inr 65)), (3, .inl (0, 9))], [], [(0, 0), (1, 3), (0, 1), (0, 0), (0, 0)], [(0, 0), (1, 1), (2, 2)]), (13, [(0, .inr (.inr 4)), (1, .inr (.inr 65)), (2, .inr (.inr 65)), (3, .inl (0, 8)), (4, .inl (0, 9))], [], [(0, 0), (1, 3), (0, 0), (1, 4), (0, 0)], [(0, 0), (1, 1), (2, 2)])]
def kx313_s : List fx_D := []
def kx313_x : fx_X := ([], [(39, 1, 1)], [], [], [], [(32, 59, 4, kx312_c), (35, 63, 4, kx212_c), (59, 67, 4, kx210_c)])
set_option maxRecDepth 100000 in
theorem kx313_k : fx_chk TX 5 kx313_c 0 kx313_x t_X4_countEdits kx313_a kx313_s 19 = true := by decide +kernel
set_option maxRecDepth 100000 in
theorem kx313 {l : Launch} {E : (Nat → Prop) → State → Prop} {ad : List Nat} {D : va_G} {gs : List Nat} {cy : Nat → ClassId} (h : fx_env E D classes (tys cy) nestW) : fx_Met l yX4_countEdits (.code yX4_countEdits cX4_countEdits 5 (some .int) :: wsL_law) ({ frames := 3, cells := 0, slots := 0, locals := 68 }) E (gs, TX, cy, fun _ => True) ad D classes kx313_c :=
  fx_sound (x := kx313_x) (tb := t_X4_countEdits) (an := kx313_a) (sp := kx313_s) (rk := 0) 19 h (fun _ _ _ _ => trivial) (ht_tys cy) (by decide) rfl ⟨fx_an, (fx_ac fl_X4_39 (fx_an)), fx_an, fx_an, fx_an, (fx_ac (ev_V (kx312 h) (by decide) rfl ⟨by decide, by decide⟩ iV_X4_editsTo g_X4_59) (fx_ac (ev_V (kx212 h) (by decide) rfl ⟨by decide, by decide⟩ iV_X4_write g_X4_63) (fx_ac (ev_V (kx210 h) (by decide) rfl ⟨by decide, by decide⟩ iV_X4_read g_X4_67) (fx_an))))⟩ d_X4_countEdits kx313_k
-- X4_editsTo 3 64 11 i i
def kx314_c : fx_C := ([.inr (.inr 4), .inr (.inr 65), .inr (.inr 12), .inl (0, 8), .inl (0, 12)], [], [(some (.inl (-2147483648, 2147483647)), [.inr (.inr 4), .inr (.inr 65), .inr (.inr 12), .inl (0, 8), .inl (0, 12)], [])], [])
def kx314_a : List fx_N := []
def kx314_s : List fx_D := []
def kx314_x : fx_X := ([], [], [], [], [], [(22, 67, 4, kx210_c), (29, 43, 1, kx118_c), (37, 43, 1, kx112_c), (59, 67, 4, kx210_c), (68, 67, 4, kx210_c), (71, 53, 1002, ([], [], [], [])), (76, 53, 1002, ([], [], [], []))])
set_option maxRecDepth 100000 in
theorem kx314_k : fx_chk TX 6 kx314_c 0 kx314_x t_X4_editsTo kx314_a kx314_s 47 = true := by decide +kernel
set_option maxRecDepth 100000 in
theorem kx314 {l : Launch} {E : (Nat → Prop) → State → Prop} {ad : List Nat} {D : va_G} {gs : List Nat} {cy : Nat → ClassId} (h : fx_env E D classes (tys cy) nestW) : fx_Met l yX4_editsTo (.code yX4_editsTo cX4_editsTo 6 (some .int) :: wsL_law) ({ frames := 2, cells := 0, slots := 0, locals := 43 }) E (gs, TX, cy, fun _ => True) ad D classes kx314_c :=
  fx_sound (x := kx314_x) (tb := t_X4_editsTo) (an := kx314_a) (sp := kx314_s) (rk := 0) 47 h (fun _ _ _ _ => trivial) (ht_tys cy) (by decide) rfl ⟨fx_an, fx_an, fx_an, fx_an, fx_an, (fx_ac (ev_V (kx210 h) (by decide) rfl ⟨by decide, by decide⟩ iV_X4_read g_X4_67) (fx_ac (ev_V (kx118 h) (by decide) rfl ⟨by decide, by decide⟩ iV_X1_at g_X4_43) (fx_ac (ev_V (kx112 h) (by decide) rfl ⟨by decide, by decide⟩ iV_X1_at g_X4_43) (fx_ac (ev_V (kx210 h) (by decide) rfl ⟨by decide, by decide⟩ iV_X4_read g_X4_67) (fx_ac (ev_V (kx210 h) (by decide) rfl ⟨by decide, by decide⟩ iV_X4_read g_X4_67) (fx_ac (ev_M (by decide) ⟨by decide, by decide, m_137, m_1107, m_396, m_397⟩) (fx_ac (ev_M (by decide) ⟨by decide, by decide, m_137, m_1107, m_396, m_397⟩) (fx_an))))))))⟩ d_X4_editsTo kx314_k
-- X4_countEdits 3 64 11
def kx315_c : fx_C := ([.inr (.inr 4), .inr (.inr 65), .inr (.inr 12)], [], [(some (.inl (-2147483648, 2147483647)), [.inr (.inr 4), .inr (.inr 65), .inr (.inr 12)], [])], [(1000, 31)])
def kx315_a : List fx_N := [(2, [(0, .inr (.inr 4)), (1, .inr (.inr 65)), (2, .inr (.inr 12)), (3, .inl (0, 9))], [], [(0, 0), (1, 3), (0, 1), (0, 0), (0, 0)], [(0, 0), (1, 1), (2, 2)]), (13, [(0, .inr (.inr 4)), (1, .inr (.inr 65)), (2, .inr (.inr 12)), (3, .inl (0, 8)), (4, .inl (0, 14))], [], [(0, 0), (1, 3), (0, 0), (1, 4), (0, 0)], [(0, 0), (1, 1), (2, 2)])]
def kx315_s : List fx_D := []
def kx315_x : fx_X := ([], [(39, 1, 1)], [], [], [], [(32, 59, 4, kx314_c), (35, 63, 4, kx212_c), (59, 67, 4, kx210_c)])
set_option maxRecDepth 100000 in
theorem kx315_k : fx_chk TX 5 kx315_c 0 kx315_x t_X4_countEdits kx315_a kx315_s 19 = true := by decide +kernel
set_option maxRecDepth 100000 in
theorem kx315 {l : Launch} {E : (Nat → Prop) → State → Prop} {ad : List Nat} {D : va_G} {gs : List Nat} {cy : Nat → ClassId} (h : fx_env E D classes (tys cy) nestW) : fx_Met l yX4_countEdits (.code yX4_countEdits cX4_countEdits 5 (some .int) :: wsL_law) ({ frames := 3, cells := 0, slots := 0, locals := 68 }) E (gs, TX, cy, fun _ => True) ad D classes kx315_c :=
  fx_sound (x := kx315_x) (tb := t_X4_countEdits) (an := kx315_a) (sp := kx315_s) (rk := 0) 19 h (fun _ _ _ _ => trivial) (ht_tys cy) (by decide) rfl ⟨fx_an, (fx_ac fl_X4_39 (fx_an)), fx_an, fx_an, fx_an, (fx_ac (ev_V (kx314 h) (by decide) rfl ⟨by decide, by decide⟩ iV_X4_editsTo g_X4_59) (fx_ac (ev_V (kx212 h) (by decide) rfl ⟨by decide, by decide⟩ iV_X4_write g_X4_63) (fx_ac (ev_V (kx210 h) (by decide) rfl ⟨by decide, by decide⟩ iV_X4_read g_X4_67) (fx_an))))⟩ d_X4_countEdits kx315_k
-- X4_editsTo 3 11 64 i i
def kx316_c : fx_C := ([.inr (.inr 4), .inr (.inr 12), .inr (.inr 65), .inl (0, 12), .inl (0, 8)], [], [(some (.inl (-2147483648, 2147483647)), [.inr (.inr 4), .inr (.inr 12), .inr (.inr 65), .inl (0, 12), .inl (0, 8)], [])], [])
def kx316_a : List fx_N := []
def kx316_s : List fx_D := []
def kx316_x : fx_X := ([], [], [], [], [], [(22, 67, 4, kx210_c), (29, 43, 1, kx112_c), (37, 43, 1, kx118_c), (59, 67, 4, kx210_c), (68, 67, 4, kx210_c), (71, 53, 1002, ([], [], [], [])), (76, 53, 1002, ([], [], [], []))])
set_option maxRecDepth 100000 in
theorem kx316_k : fx_chk TX 6 kx316_c 0 kx316_x t_X4_editsTo kx316_a kx316_s 47 = true := by decide +kernel
set_option maxRecDepth 100000 in
theorem kx316 {l : Launch} {E : (Nat → Prop) → State → Prop} {ad : List Nat} {D : va_G} {gs : List Nat} {cy : Nat → ClassId} (h : fx_env E D classes (tys cy) nestW) : fx_Met l yX4_editsTo (.code yX4_editsTo cX4_editsTo 6 (some .int) :: wsL_law) ({ frames := 2, cells := 0, slots := 0, locals := 43 }) E (gs, TX, cy, fun _ => True) ad D classes kx316_c :=
  fx_sound (x := kx316_x) (tb := t_X4_editsTo) (an := kx316_a) (sp := kx316_s) (rk := 0) 47 h (fun _ _ _ _ => trivial) (ht_tys cy) (by decide) rfl ⟨fx_an, fx_an, fx_an, fx_an, fx_an, (fx_ac (ev_V (kx210 h) (by decide) rfl ⟨by decide, by decide⟩ iV_X4_read g_X4_67) (fx_ac (ev_V (kx112 h) (by decide) rfl ⟨by decide, by decide⟩ iV_X1_at g_X4_43) (fx_ac (ev_V (kx118 h) (by decide) rfl ⟨by decide, by decide⟩ iV_X1_at g_X4_43) (fx_ac (ev_V (kx210 h) (by decide) rfl ⟨by decide, by decide⟩ iV_X4_read g_X4_67) (fx_ac (ev_V (kx210 h) (by decide) rfl ⟨by decide, by decide⟩ iV_X4_read g_X4_67) (fx_ac (ev_M (by decide) ⟨by decide, by decide, m_137, m_1107, m_396, m_397⟩) (fx_ac (ev_M (by decide) ⟨by decide, by decide, m_137, m_1107, m_396, m_397⟩) (fx_an))))))))⟩ d_X4_editsTo kx316_k
-- X4_countEdits 3 11 64
def kx317_c : fx_C := ([.inr (.inr 4), .inr (.inr 12), .inr (.inr 65)], [], [(some (.inl (-2147483648, 2147483647)), [.inr (.inr 4), .inr (.inr 12), .inr (.inr 65)], [])], [(1000, 31)])
def kx317_a : List fx_N := [(2, [(0, .inr (.inr 4)), (1, .inr (.inr 12)), (2, .inr (.inr 65)), (3, .inl (0, 14))], [], [(0, 0), (1, 3), (0, 1), (0, 0), (0, 0)], [(0, 0), (1, 1), (2, 2)]), (13, [(0, .inr (.inr 4)), (1, .inr (.inr 12)), (2, .inr (.inr 65)), (3, .inl (0, 12)), (4, .inl (0, 9))], [], [(0, 0), (1, 3), (0, 0), (1, 4), (0, 0)], [(0, 0), (1, 1), (2, 2)])]
def kx317_s : List fx_D := []
def kx317_x : fx_X := ([], [(39, 1, 1)], [], [], [], [(32, 59, 4, kx316_c), (35, 63, 4, kx212_c), (59, 67, 4, kx210_c)])
set_option maxRecDepth 100000 in
theorem kx317_k : fx_chk TX 5 kx317_c 0 kx317_x t_X4_countEdits kx317_a kx317_s 19 = true := by decide +kernel
set_option maxRecDepth 100000 in
theorem kx317 {l : Launch} {E : (Nat → Prop) → State → Prop} {ad : List Nat} {D : va_G} {gs : List Nat} {cy : Nat → ClassId} (h : fx_env E D classes (tys cy) nestW) : fx_Met l yX4_countEdits (.code yX4_countEdits cX4_countEdits 5 (some .int) :: wsL_law) ({ frames := 3, cells := 0, slots := 0, locals := 68 }) E (gs, TX, cy, fun _ => True) ad D classes kx317_c :=
  fx_sound (x := kx317_x) (tb := t_X4_countEdits) (an := kx317_a) (sp := kx317_s) (rk := 0) 19 h (fun _ _ _ _ => trivial) (ht_tys cy) (by decide) rfl ⟨fx_an, (fx_ac fl_X4_39 (fx_an)), fx_an, fx_an, fx_an, (fx_ac (ev_V (kx316 h) (by decide) rfl ⟨by decide, by decide⟩ iV_X4_editsTo g_X4_59) (fx_ac (ev_V (kx212 h) (by decide) rfl ⟨by decide, by decide⟩ iV_X4_write g_X4_63) (fx_ac (ev_V (kx210 h) (by decide) rfl ⟨by decide, by decide⟩ iV_X4_read g_X4_67) (fx_an))))⟩ d_X4_countEdits kx317_k
-- X4_editsTo 3 11 11 i i
def kx318_c : fx_C := ([.inr (.inr 4), .inr (.inr 12), .inr (.inr 12), .inl (0, 12), .inl (0, 12)], [], [(some (.inl (-2147483648, 2147483647)), [.inr (.inr 4), .inr (.inr 12), .inr (.inr 12), .inl (0, 12), .inl (0, 12)], [])], [])
def kx318_a : List fx_N := []
def kx318_s : List fx_D := []
def kx318_x : fx_X := ([], [], [], [], [], [(22, 67, 4, kx210_c), (29, 43, 1, kx112_c), (37, 43, 1, kx112_c), (59, 67, 4, kx210_c), (68, 67, 4, kx210_c), (71, 53, 1002, ([], [], [], [])), (76, 53, 1002, ([], [], [], []))])
set_option maxRecDepth 100000 in
theorem kx318_k : fx_chk TX 6 kx318_c 0 kx318_x t_X4_editsTo kx318_a kx318_s 47 = true := by decide +kernel
set_option maxRecDepth 100000 in
theorem kx318 {l : Launch} {E : (Nat → Prop) → State → Prop} {ad : List Nat} {D : va_G} {gs : List Nat} {cy : Nat → ClassId} (h : fx_env E D classes (tys cy) nestW) : fx_Met l yX4_editsTo (.code yX4_editsTo cX4_editsTo 6 (some .int) :: wsL_law) ({ frames := 2, cells := 0, slots := 0, locals := 43 }) E (gs, TX, cy, fun _ => True) ad D classes kx318_c :=
  fx_sound (x := kx318_x) (tb := t_X4_editsTo) (an := kx318_a) (sp := kx318_s) (rk := 0) 47 h (fun _ _ _ _ => trivial) (ht_tys cy) (by decide) rfl ⟨fx_an, fx_an, fx_an, fx_an, fx_an, (fx_ac (ev_V (kx210 h) (by decide) rfl ⟨by decide, by decide⟩ iV_X4_read g_X4_67) (fx_ac (ev_V (kx112 h) (by decide) rfl ⟨by decide, by decide⟩ iV_X1_at g_X4_43) (fx_ac (ev_V (kx112 h) (by decide) rfl ⟨by decide, by decide⟩ iV_X1_at g_X4_43) (fx_ac (ev_V (kx210 h) (by decide) rfl ⟨by decide, by decide⟩ iV_X4_read g_X4_67) (fx_ac (ev_V (kx210 h) (by decide) rfl ⟨by decide, by decide⟩ iV_X4_read g_X4_67) (fx_ac (ev_M (by decide) ⟨by decide, by decide, m_137, m_1107, m_396, m_397⟩) (fx_ac (ev_M (by decide) ⟨by decide, by decide, m_137, m_1107, m_396, m_397⟩) (fx_an))))))))⟩ d_X4_editsTo kx318_k
-- X4_countEdits 3 11 11
def kx319_c : fx_C := ([.inr (.inr 4), .inr (.inr 12), .inr (.inr 12)], [], [(some (.inl (-2147483648, 2147483647)), [.inr (.inr 4), .inr (.inr 12), .inr (.inr 12)], [])], [(1000, 31)])
def kx319_a : List fx_N := [(2, [(0, .inr (.inr 4)), (1, .inr (.inr 12)), (2, .inr (.inr 12)), (3, .inl (0, 14))], [], [(0, 0), (1, 3), (0, 1), (0, 0), (0, 0)], [(0, 0), (1, 1), (2, 2)]), (13, [(0, .inr (.inr 4)), (1, .inr (.inr 12)), (2, .inr (.inr 12)), (3, .inl (0, 12)), (4, .inl (0, 14))], [], [(0, 0), (1, 3), (0, 0), (1, 4), (0, 0)], [(0, 0), (1, 1), (2, 2)])]
def kx319_s : List fx_D := []
def kx319_x : fx_X := ([], [(39, 1, 1)], [], [], [], [(32, 59, 4, kx318_c), (35, 63, 4, kx212_c), (59, 67, 4, kx210_c)])
set_option maxRecDepth 100000 in
theorem kx319_k : fx_chk TX 5 kx319_c 0 kx319_x t_X4_countEdits kx319_a kx319_s 19 = true := by decide +kernel
set_option maxRecDepth 100000 in
theorem kx319 {l : Launch} {E : (Nat → Prop) → State → Prop} {ad : List Nat} {D : va_G} {gs : List Nat} {cy : Nat → ClassId} (h : fx_env E D classes (tys cy) nestW) : fx_Met l yX4_countEdits (.code yX4_countEdits cX4_countEdits 5 (some .int) :: wsL_law) ({ frames := 3, cells := 0, slots := 0, locals := 68 }) E (gs, TX, cy, fun _ => True) ad D classes kx319_c :=
  fx_sound (x := kx319_x) (tb := t_X4_countEdits) (an := kx319_a) (sp := kx319_s) (rk := 0) 19 h (fun _ _ _ _ => trivial) (ht_tys cy) (by decide) rfl ⟨fx_an, (fx_ac fl_X4_39 (fx_an)), fx_an, fx_an, fx_an, (fx_ac (ev_V (kx318 h) (by decide) rfl ⟨by decide, by decide⟩ iV_X4_editsTo g_X4_59) (fx_ac (ev_V (kx212 h) (by decide) rfl ⟨by decide, by decide⟩ iV_X4_write g_X4_63) (fx_ac (ev_V (kx210 h) (by decide) rfl ⟨by decide, by decide⟩ iV_X4_read g_X4_67) (fx_an))))⟩ d_X4_countEdits kx319_k
-- X11_apart 0 i i
def kx320_c : fx_C := ([.inr (.inr 1), .inl (-2147483648, 2147483647), .inl (-2147483648, 2147483647)], [], [(some (.inl (-2147483648, 2147483647)), [.inr (.inr 1), .inl (-1, 4), .inl (-1, 4)], []), (some (.inl (-1, -1)), [.inr (.inr 1), .inl (-2147483648, 2147483647), .inl (-2147483648, 2147483647)], [])], [(1000, 31)])
def kx320_a : List fx_N := []
def kx320_s : List fx_D := []
def kx320_x : fx_X := ([], [(26, 11, 2)], [], [], [], [(2, 131, 11, kx126_c), (8, 131, 11, kx126_c), (33, 235, 4, kx313_c), (33, 235, 4, kx315_c), (33, 235, 4, kx317_c), (33, 235, 4, kx319_c)])
set_option maxRecDepth 100000 in
theorem kx320_k : fx_chk TX 5 kx320_c 0 kx320_x t_X11_apart kx320_a kx320_s 20 = true := by decide +kernel
set_option maxRecDepth 100000 in
theorem kx320 {l : Launch} {E : (Nat → Prop) → State → Prop} {ad : List Nat} {D : va_G} {gs : List Nat} {cy : Nat → ClassId} (h : fx_env E D classes (tys cy) nestW) : fx_Met l yX11_apart (.code yX11_apart cX11_apart 5 (some .int) :: wsL_law) ({ frames := 4, cells := 0, slots := 0, locals := 92 }) E (gs, TX, cy, fun _ => True) ad D classes kx320_c :=
  fx_sound (x := kx320_x) (tb := t_X11_apart) (an := kx320_a) (sp := kx320_s) (rk := 0) 20 h (fun _ _ _ _ => trivial) (ht_tys cy) (by decide) rfl ⟨fx_an, (fx_ac fl_X11_26 (fx_an)), fx_an, fx_an, fx_an, (fx_ac (ev_V (kx126 h) (by decide) rfl ⟨by decide, by decide⟩ iV_X11_lineOf g_X11_131) (fx_ac (ev_V (kx126 h) (by decide) rfl ⟨by decide, by decide⟩ iV_X11_lineOf g_X11_131) (fx_ac (ev_V (kx313 h) (by decide) rfl ⟨by decide, by decide⟩ iV_X4_countEdits g_X11_235) (fx_ac (ev_V (kx315 h) (by decide) rfl ⟨by decide, by decide⟩ iV_X4_countEdits g_X11_235) (fx_ac (ev_V (kx317 h) (by decide) rfl ⟨by decide, by decide⟩ iV_X4_countEdits g_X11_235) (fx_ac (ev_V (kx319 h) (by decide) rfl ⟨by decide, by decide⟩ iV_X4_countEdits g_X11_235) (fx_an)))))))⟩ d_X11_apart kx320_k
-- X4_longestFrom 3 64 11 i i
def kx321_c : fx_C := ([.inr (.inr 4), .inr (.inr 65), .inr (.inr 12), .inl (0, 8), .inl (0, 12)], [], [(some (.inl (0, 0)), [.inr (.inr 4), .inr (.inr 65), .inr (.inr 12), .inl (0, 8), .inl (0, 12)], []), (some (.inl (-2147483648, 2147483647)), [.inr (.inr 4), .inr (.inr 65), .inr (.inr 12), .inl (0, 8), .inl (0, 12)], []), (some (.inl (1, 1)), [.inr (.inr 4), .inr (.inr 65), .inr (.inr 12), .inl (0, 8), .inl (12, 12)], [])], [])
def kx321_a : List fx_N := []
def kx321_s : List fx_D := []
def kx321_x : fx_X := ([], [(39, 1, 1)], [], [], [], [(21, 43, 1, kx118_c), (27, 43, 1, kx112_c), (41, 67, 4, kx210_c), (53, 67, 4, kx210_c), (62, 67, 4, kx210_c), (65, 73, 1001, ([], [], [], []))])
set_option maxRecDepth 100000 in
theorem kx321_k : fx_chk TX 5 kx321_c 0 kx321_x t_X4_longestFrom kx321_a kx321_s 31 = true := by decide +kernel
set_option maxRecDepth 100000 in
theorem kx321 {l : Launch} {E : (Nat → Prop) → State → Prop} {ad : List Nat} {D : va_G} {gs : List Nat} {cy : Nat → ClassId} (h : fx_env E D classes (tys cy) nestW) : fx_Met l yX4_longestFrom (.code yX4_longestFrom cX4_longestFrom 5 (some .int) :: wsL_law) ({ frames := 2, cells := 0, slots := 0, locals := 43 }) E (gs, TX, cy, fun _ => True) ad D classes kx321_c :=
  fx_sound (x := kx321_x) (tb := t_X4_longestFrom) (an := kx321_a) (sp := kx321_s) (rk := 0) 31 h (fun _ _ _ _ => trivial) (ht_tys cy) (by decide) rfl ⟨fx_an, (fx_ac fl_X4_39 (fx_an)), fx_an, fx_an, fx_an, (fx_ac (ev_V (kx118 h) (by decide) rfl ⟨by decide, by decide⟩ iV_X1_at g_X4_43) (fx_ac (ev_V (kx112 h) (by decide) rfl ⟨by decide, by decide⟩ iV_X1_at g_X4_43) (fx_ac (ev_V (kx210 h) (by decide) rfl ⟨by decide, by decide⟩ iV_X4_read g_X4_67) (fx_ac (ev_V (kx210 h) (by decide) rfl ⟨by decide, by decide⟩ iV_X4_read g_X4_67) (fx_ac (ev_V (kx210 h) (by decide) rfl ⟨by decide, by decide⟩ iV_X4_read g_X4_67) (fx_ac (ev_M (by decide) ⟨by decide, by decide, m_137, m_1253, m_136, m_138⟩) (fx_an)))))))⟩ d_X4_longestFrom kx321_k
-- X4_lengthOfLongest 3 64 11
def kx322_c : fx_C := ([.inr (.inr 4), .inr (.inr 65), .inr (.inr 12)], [], [(some (.inl (-2147483648, 2147483647)), [.inr (.inr 4), .inr (.inr 65), .inr (.inr 12)], [])], [(1000, 31)])
def kx322_a : List fx_N := [(5, [(0, .inr (.inr 4)), (1, .inr (.inr 65)), (2, .inr (.inr 12)), (3, .inl (-1, 8))], [], [(0, 0), (2, 3), (0, 1), (0, 0), (0, 0)], [(0, 0), (1, 1), (2, 2)]), (15, [(0, .inr (.inr 4)), (1, .inr (.inr 65)), (2, .inr (.inr 12)), (3, .inl (0, 8)), (4, .inl (-1, 12))], [], [(0, 0), (2, 3), (0, 0), (2, 4), (0, 0)], [(0, 0), (1, 1), (2, 2)])]
def kx322_s : List fx_D := []
def kx322_x : fx_X := ([], [(39, 1, 1)], [], [], [], [(30, 70, 4, kx321_c), (33, 63, 4, kx212_c), (51, 67, 4, kx210_c)])
set_option maxRecDepth 100000 in
theorem kx322_k : fx_chk TX 5 kx322_c 0 kx322_x t_X4_lengthOfLongest kx322_a kx322_s 17 = true := by decide +kernel
set_option maxRecDepth 100000 in
theorem kx322 {l : Launch} {E : (Nat → Prop) → State → Prop} {ad : List Nat} {D : va_G} {gs : List Nat} {cy : Nat → ClassId} (h : fx_env E D classes (tys cy) nestW) : fx_Met l yX4_lengthOfLongest (.code yX4_lengthOfLongest cX4_lengthOfLongest 5 (some .int) :: wsL_law) ({ frames := 3, cells := 0, slots := 0, locals := 67 }) E (gs, TX, cy, fun _ => True) ad D classes kx322_c :=
  fx_sound (x := kx322_x) (tb := t_X4_lengthOfLongest) (an := kx322_a) (sp := kx322_s) (rk := 0) 17 h (fun _ _ _ _ => trivial) (ht_tys cy) (by decide) rfl ⟨fx_an, (fx_ac fl_X4_39 (fx_an)), fx_an, fx_an, fx_an, (fx_ac (ev_V (kx321 h) (by decide) rfl ⟨by decide, by decide⟩ iV_X4_longestFrom g_X4_70) (fx_ac (ev_V (kx212 h) (by decide) rfl ⟨by decide, by decide⟩ iV_X4_write g_X4_63) (fx_ac (ev_V (kx210 h) (by decide) rfl ⟨by decide, by decide⟩ iV_X4_read g_X4_67) (fx_an))))⟩ d_X4_lengthOfLongest kx322_k
-- X11_strange 0 i
def kx323_c : fx_C := ([.inr (.inr 1), .inl (-2147483648, 2147483647)], [], [(some (.inl (-2147483648, 2147483647)), [.inr (.inr 1), .inl (0, 4)], [((0, 8), .inr (.inr 9)), ((2, 9), .inl (1, 5))]), (some (.inl (-1, -1)), [.inr (.inr 1), .inl (-2147483648, 2147483647)], [])], [(1000, 31)])
def kx323_a : List fx_N := []
def kx323_s : List fx_D := []
def kx323_x : fx_X := ([], [(19, 11, 1), (26, 11, 2), (114, 5, 0), (118, 8, 0), (134, 1, 1)], [], [], [], [(2, 127, 11, kx124_c), (33, 238, 4, kx322_c)])
set_option maxRecDepth 100000 in
theorem kx323_k : fx_chk TX 3 kx323_c 0 kx323_x t_X11_strange kx323_a kx323_s 20 = true := by decide +kernel
set_option maxRecDepth 100000 in
theorem kx323 {l : Launch} {E : (Nat → Prop) → State → Prop} {ad : List Nat} {D : va_G} {gs : List Nat} {cy : Nat → ClassId} (h : fx_env E D classes (tys cy) nestW) : fx_Met l yX11_strange (.code yX11_strange cX11_strange 3 (some .int) :: wsL_law) ({ frames := 4, cells := 0, slots := 0, locals := 91 }) E (gs, TX, cy, fun _ => True) ad D classes kx323_c :=
  fx_sound (x := kx323_x) (tb := t_X11_strange) (an := kx323_a) (sp := kx323_s) (rk := 0) 20 h (fun _ _ _ _ => trivial) (ht_tys cy) (by decide) rfl ⟨fx_an, (fx_ac fl_X11_19 (fx_ac fl_X11_26 (fx_ac fl_X11_114 (fx_ac fl_X11_118 (fx_ac fl_X11_134 (fx_an)))))), fx_an, fx_an, fx_an, (fx_ac (ev_V (kx124 h) (by decide) rfl ⟨by decide, by decide⟩ iV_X11_slipOf g_X11_127) (fx_ac (ev_V (kx322 h) (by decide) rfl ⟨by decide, by decide⟩ iV_X4_lengthOfLongest g_X11_238) (fx_an)))⟩ d_X11_strange kx323_k
-- X1_isLike 11 64
def kx324_c : fx_C := ([.inr (.inr 12), .inr (.inr 65)], [], [(some (.inl (0, 0)), [.inr (.inr 12), .inr (.inr 65)], []), (some (.inl (1, 1)), [.inr (.inr 12), .inr (.inr 65)], [])], [])
def kx324_a : List fx_N := [(15, [(0, .inr (.inr 12)), (1, .inr (.inr 65)), (2, .inl (0, 12))], [], [(0, 0), (1, 2), (0, 0)], [(0, 0), (1, 1)])]
def kx324_s : List fx_D := []
def kx324_x : fx_X := ([], [(21, 1, 1)], [], [], [], [(25, 36, 1, kx112_c), (30, 36, 1, kx118_c)])
set_option maxRecDepth 100000 in
theorem kx324_k : fx_chk TX 3 kx324_c 3 kx324_x t_X1_isLike kx324_a kx324_s 16 = true := by decide +kernel
set_option maxRecDepth 100000 in
theorem kx324 {l : Launch} {E : (Nat → Prop) → State → Prop} {ad : List Nat} {D : va_G} {gs : List Nat} {cy : Nat → ClassId} (h : fx_env E D classes (tys cy) nestW) : fx_Met l yX1_isLike (.code yX1_isLike cX1_isLike 3 (some .boolean) :: wsL_law) ({ frames := 1, cells := 0, slots := 0, locals := 21 }) E (gs, TX, cy, fun _ => True) ad D classes kx324_c :=
  fx_sound (x := kx324_x) (tb := t_X1_isLike) (an := kx324_a) (sp := kx324_s) (rk := 3) 16 h (fun _ _ _ _ => trivial) (ht_tys cy) (by decide) rfl ⟨fx_an, (fx_ac fl_X1_21 (fx_an)), fx_an, fx_an, fx_an, (fx_ac (ev_V (kx112 h) (by decide) rfl ⟨by decide, by decide⟩ iV_X1_at g_X1_36) (fx_ac (ev_V (kx118 h) (by decide) rfl ⟨by decide, by decide⟩ iV_X1_at g_X1_36) (fx_an)))⟩ d_X1_isLike kx324_k
-- X5_roundsUntil 2 8 i 64
def kx325_c : fx_C := ([.inr (.inr 3), .inr (.inr 9), .inl (0, 2), .inr (.inr 65)], [], [(some (.inl (0, 12)), [.inr (.inr 3), .inr (.inr 9), .inl (0, 2), .inr (.inr 65)], []), (some (.inl (-1, -1)), [.inr (.inr 3), .inr (.inr 9), .inl (0, 2), .inr (.inr 65)], [])], [(0, 5), (1, 1), (8, 1), (8, 2), (1000, 14), (1000, 19), (1000, 20)])
def kx325_a : List fx_N := [(14, [(0, .inr (.inr 3)), (1, .inr (.inr 9)), (2, .inl (0, 2)), (3, .inr (.inr 65)), (4, .inl (0, 13))], [], [(0, 0), (1, 4), (0, 0)], [(0, 0), (1, 1), (2, 2), (3, 3)])]
def kx325_s : List fx_D := []
def kx325_x : fx_X := ([], [(12, 5, 0), (18, 5, 1), (32, 8, 0)], [], [], [], [(8, 103, 8, kx114_c), (29, 106, 1, kx324_c), (44, 61, 8, kx152_c)])
set_option maxRecDepth 100000 in
theorem kx325_k : fx_chk TX 5 kx325_c 0 kx325_x t_X5_roundsUntil kx325_a kx325_s 20 = true := by decide +kernel
set_option maxRecDepth 100000 in
theorem kx325 {l : Launch} {E : (Nat → Prop) → State → Prop} {ad : List Nat} {D : va_G} {gs : List Nat} {cy : Nat → ClassId} (h : fx_env E D classes (tys cy) nestW) : fx_Met l yX5_roundsUntil (.code yX5_roundsUntil cX5_roundsUntil 5 (some .int) :: wsL_law) ({ frames := 6, cells := 0, slots := 0, locals := 138 }) E (gs, TX, cy, fun _ => True) ad D classes kx325_c :=
  fx_sound (x := kx325_x) (tb := t_X5_roundsUntil) (an := kx325_a) (sp := kx325_s) (rk := 0) 20 h (fun _ _ _ _ => trivial) (ht_tys cy) (by decide) rfl ⟨fx_an, (fx_ac fl_X5_12 (fx_ac fl_X5_18 (fx_ac fl_X5_32 (fx_an)))), fx_an, fx_an, fx_an, (fx_ac (ev_V (kx114 h) (by decide) rfl ⟨by decide, by decide⟩ iV_X8_copy g_X5_103) (fx_ac (ev_V (kx324 h) (by decide) rfl ⟨by decide, by decide⟩ iV_X1_isLike g_X5_106) (fx_ac (ev_V (kx152 h) (by decide) rfl ⟨by decide, by decide⟩ iV_X8_goRound g_X5_61) (fx_an))))⟩ d_X5_roundsUntil kx325_k
-- X11_becomes 0 i i
def kx326_c : fx_C := ([.inr (.inr 1), .inl (-2147483648, 2147483647), .inl (-2147483648, 2147483647)], [], [(some (.inl (-1, -1)), [.inr (.inr 1), .inl (-2147483648, 2147483647), .inl (-2147483648, 2147483647)], []), (some (.inl (0, 12)), [.inr (.inr 1), .inl (0, 2), .inl (0, 4)], [((0, 8), .inr (.inr 9)), ((3, 9), .inl (1, 5))])], [(0, 5), (1, 1), (8, 1), (8, 2), (1000, 14), (1000, 19), (1000, 20)])
def kx326_a : List fx_N := []
def kx326_s : List fx_D := []
def kx326_x : fx_X := ([], [(19, 11, 1), (66, 11, 8)], [], [], [], [(2, 127, 11, kx124_c), (11, 167, 1000, kx150_c), (31, 241, 5, kx325_c)])
set_option maxRecDepth 100000 in
theorem kx326_k : fx_chk TX 4 kx326_c 0 kx326_x t_X11_becomes kx326_a kx326_s 19 = true := by decide +kernel
set_option maxRecDepth 100000 in
theorem kx326 {l : Launch} {E : (Nat → Prop) → State → Prop} {ad : List Nat} {D : va_G} {gs : List Nat} {cy : Nat → ClassId} (h : fx_env E D classes (tys cy) nestW) : fx_Met l yX11_becomes (.code yX11_becomes cX11_becomes 4 (some .int) :: wsL_law) ({ frames := 7, cells := 0, slots := 0, locals := 162 }) E (gs, TX, cy, fun _ => True) ad D classes kx326_c :=
  fx_sound (x := kx326_x) (tb := t_X11_becomes) (an := kx326_a) (sp := kx326_s) (rk := 0) 19 h (fun _ _ _ _ => trivial) (ht_tys cy) (by decide) rfl ⟨fx_an, (fx_ac fl_X11_19 (fx_ac fl_X11_66 (fx_an))), fx_an, fx_an, fx_an, (fx_ac (ev_V (kx124 h) (by decide) rfl ⟨by decide, by decide⟩ iV_X11_slipOf g_X11_127) (fx_ac (ev_S (kx150 h) ⟨by decide, by decide⟩ iS_X11_isRule g_X11_167) (fx_ac (ev_V (kx325 h) (by decide) rfl ⟨by decide, by decide⟩ iV_X5_roundsUntil g_X11_241) (fx_an))))⟩ d_X11_becomes kx326_k
-- X5_rowAfter 2 8 i i
def kx327_c : fx_C := ([.inr (.inr 3), .inr (.inr 9), .inl (0, 2), .inl (0, 12)], [], [(some (.inr (.inr 12)), [.inr (.inr 3), .inr (.inr 9), .inl (0, 2), .inl (0, 12)], [])], [(0, 5), (1, 1), (8, 1), (8, 2), (1000, 14), (1000, 19), (1000, 20)])
def kx327_a : List fx_N := [(14, [(0, .inr (.inr 3)), (1, .inr (.inr 9)), (2, .inl (0, 2)), (3, .inl (0, 12)), (4, .inl (0, 12))], [], [(0, 0), (1, 4), (0, 0)], [(0, 0), (1, 1), (2, 2), (3, 3)])]
def kx327_s : List fx_D := []
def kx327_x : fx_X := ([], [(12, 5, 0), (18, 5, 1), (32, 8, 0)], [], [], [], [(8, 103, 8, kx114_c), (26, 61, 8, kx152_c)])
set_option maxRecDepth 100000 in
theorem kx327_k : fx_chk TX 5 kx327_c 4 kx327_x t_X5_rowAfter kx327_a kx327_s 14 = true := by decide +kernel
set_option maxRecDepth 100000 in
theorem kx327 {l : Launch} {E : (Nat → Prop) → State → Prop} {ad : List Nat} {D : va_G} {gs : List Nat} {cy : Nat → ClassId} (h : fx_env E D classes (tys cy) nestW) : fx_Met l yX5_rowAfter (.code yX5_rowAfter cX5_rowAfter 5 (some (.object "LostWords$Line")) :: wsL_law) ({ frames := 6, cells := 0, slots := 0, locals := 138 }) E (gs, TX, cy, fun _ => True) ad D classes kx327_c :=
  fx_sound (x := kx327_x) (tb := t_X5_rowAfter) (an := kx327_a) (sp := kx327_s) (rk := 4) 14 h (fun _ _ _ _ => trivial) (ht_tys cy) (by decide) ⟨_, rfl⟩ ⟨fx_an, (fx_ac fl_X5_12 (fx_ac fl_X5_18 (fx_ac fl_X5_32 (fx_an)))), fx_an, fx_an, fx_an, (fx_ac (ev_V (kx114 h) (by decide) rfl ⟨by decide, by decide⟩ iV_X8_copy g_X5_103) (fx_ac (ev_V (kx152 h) (by decide) rfl ⟨by decide, by decide⟩ iV_X8_goRound g_X5_61) (fx_an)))⟩ d_X5_rowAfter kx327_k
-- X11_will 0 i i
def kx328_c : fx_C := ([.inr (.inr 1), .inl (-2147483648, 2147483647), .inl (-2147483648, 2147483647)], [], [(some (.inl (-1000000, -1000000)), [.inr (.inr 1), .inl (-2147483648, 2147483647), .inl (-2147483648, 2147483647)], []), (some (.inl (-2147483648, 2147483647)), [.inr (.inr 1), .inl (0, 2), .inl (0, 12)], [])], [(0, 5), (1, 1), (8, 1), (8, 2), (1000, 14), (1000, 19), (1000, 20)])
def kx328_a : List fx_N := []
def kx328_s : List fx_D := []
def kx328_x : fx_X := ([], [(19, 11, 1), (66, 11, 8)], [], [(147, -1000000)], [], [(1, 167, 1000, kx150_c), (34, 245, 5, kx327_c), (37, 148, 10, kx133_c)])
set_option maxRecDepth 100000 in
theorem kx328_k : fx_chk TX 3 kx328_c 0 kx328_x t_X11_will kx328_a kx328_s 21 = true := by decide +kernel
set_option maxRecDepth 100000 in
theorem kx328 {l : Launch} {E : (Nat → Prop) → State → Prop} {ad : List Nat} {D : va_G} {gs : List Nat} {cy : Nat → ClassId} (h : fx_env E D classes (tys cy) nestW) : fx_Met l yX11_will (.code yX11_will cX11_will 3 (some .int) :: wsL_law) ({ frames := 7, cells := 0, slots := 0, locals := 162 }) E (gs, TX, cy, fun _ => True) ad D classes kx328_c :=
  fx_sound (x := kx328_x) (tb := t_X11_will) (an := kx328_a) (sp := kx328_s) (rk := 0) 21 h (fun _ _ _ _ => trivial) (ht_tys cy) (by decide) rfl ⟨fx_an, (fx_ac fl_X11_19 (fx_ac fl_X11_66 (fx_an))), fx_an, (fx_ac kc_X11_147 (fx_an)), fx_an, (fx_ac (ev_S (kx150 h) ⟨by decide, by decide⟩ iS_X11_isRule g_X11_167) (fx_ac (ev_V (kx327 h) (by decide) rfl ⟨by decide, by decide⟩ iV_X5_rowAfter g_X11_245) (fx_ac (ev_V (kx133 h) (by decide) rfl ⟨by decide, by decide⟩ iV_X10_senseOf g_X11_148) (fx_an))))⟩ d_X11_will kx328_k
-- X11_last 0 i
def kx329_c : fx_C := ([.inr (.inr 1), .inl (-2147483648, 2147483647)], [], [(some (.inl (-1, -1)), [.inr (.inr 1), .inl (-2147483648, 2147483647)], []), (some (.inl (-2147483648, 2147483647)), [.inr (.inr 1), .inl (0, 2)], [])], [(0, 5), (1, 1), (8, 1), (8, 2), (1000, 14), (1000, 19), (1000, 20)])
def kx329_a : List fx_N := []
def kx329_s : List fx_D := []
def kx329_x : fx_X := ([], [(19, 11, 1), (66, 11, 8), (114, 5, 0), (118, 8, 0), (134, 1, 1)], [], [], [], [(17, 167, 1000, kx150_c), (39, 245, 5, kx327_c), (43, 123, 1, kx112_c)])
set_option maxRecDepth 100000 in
theorem kx329_k : fx_chk TX 3 kx329_c 0 kx329_x t_X11_last kx329_a kx329_s 25 = true := by decide +kernel
set_option maxRecDepth 100000 in
theorem kx329 {l : Launch} {E : (Nat → Prop) → State → Prop} {ad : List Nat} {D : va_G} {gs : List Nat} {cy : Nat → ClassId} (h : fx_env E D classes (tys cy) nestW) : fx_Met l yX11_last (.code yX11_last cX11_last 3 (some .int) :: wsL_law) ({ frames := 7, cells := 0, slots := 0, locals := 162 }) E (gs, TX, cy, fun _ => True) ad D classes kx329_c :=
  fx_sound (x := kx329_x) (tb := t_X11_last) (an := kx329_a) (sp := kx329_s) (rk := 0) 25 h (fun _ _ _ _ => trivial) (ht_tys cy) (by decide) rfl ⟨fx_an, (fx_ac fl_X11_19 (fx_ac fl_X11_66 (fx_ac fl_X11_114 (fx_ac fl_X11_118 (fx_ac fl_X11_134 (fx_an)))))), fx_an, fx_an, fx_an, (fx_ac (ev_S (kx150 h) ⟨by decide, by decide⟩ iS_X11_isRule g_X11_167) (fx_ac (ev_V (kx327 h) (by decide) rfl ⟨by decide, by decide⟩ iV_X5_rowAfter g_X11_245) (fx_ac (ev_V (kx112 h) (by decide) rfl ⟨by decide, by decide⟩ iV_X1_at g_X11_123) (fx_an))))⟩ d_X11_last kx329_k
-- X10_markOf 8 64
def kx330_c : fx_C := ([.inr (.inr 9), .inr (.inr 65)], [], [(some (.inl (-2147483648, 2147483647)), [.inr (.inr 9), .inr (.inr 65)], [])], [])
def kx330_a : List fx_N := [(4, [(0, .inr (.inr 9)), (1, .inr (.inr 65)), (2, .inl (-2147483648, 2147483647)), (3, .inl (0, 8))], [], [(0, 0), (1, 3), (0, 0)], [(0, 0), (1, 1)])]
def kx330_s : List fx_D := []
def kx330_x : fx_X := ([], [(77, 1, 1)], [], [], [], [(19, 80, 1, kx118_c), (22, 88, 10, kx128_c)])
set_option maxRecDepth 100000 in
theorem kx330_k : fx_chk TX 4 kx330_c 0 kx330_x t_X10_markOf kx330_a kx330_s 21 = true := by decide +kernel
set_option maxRecDepth 100000 in
theorem kx330 {l : Launch} {E : (Nat → Prop) → State → Prop} {ad : List Nat} {D : va_G} {gs : List Nat} {cy : Nat → ClassId} (h : fx_env E D classes (tys cy) nestW) : fx_Met l yX10_markOf (.code yX10_markOf cX10_markOf 4 (some .int) :: wsL_law) ({ frames := 2, cells := 0, slots := 0, locals := 42 }) E (gs, TX, cy, fun _ => True) ad D classes kx330_c :=
  fx_sound (x := kx330_x) (tb := t_X10_markOf) (an := kx330_a) (sp := kx330_s) (rk := 0) 21 h (fun _ _ _ _ => trivial) (ht_tys cy) (by decide) rfl ⟨fx_an, (fx_ac fl_X10_77 (fx_an)), fx_an, fx_an, fx_an, (fx_ac (ev_V (kx118 h) (by decide) rfl ⟨by decide, by decide⟩ iV_X1_at g_X10_80) (fx_ac (ev_V (kx128 h) (by decide) rfl ⟨by decide, by decide⟩ iV_X10_worthOf g_X10_88) (fx_an)))⟩ d_X10_markOf kx330_k
