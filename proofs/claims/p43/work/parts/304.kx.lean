-- X1_countOf 11 i
def kx137_c : fx_C := ([.inr (.inr 12), .inl (-2147483648, 2147483647)], [], [(some (.inl (-2147483648, 2147483647)), [.inr (.inr 12), .inl (-2147483648, 2147483647)], [])], [])
def kx137_a : List fx_N := [(4, [(0, .inr (.inr 12)), (1, .inl (-2147483648, 2147483647)), (2, .inl (-2147483648, 2147483647)), (3, .inl (0, 12))], [], [(0, 0), (1, 3), (0, 0)], [(0, 0), (1, 1)])]
def kx137_s : List fx_D := []
def kx137_x : fx_X := ([], [(21, 1, 1)], [], [], [], [(14, 36, 1, kx112_c)])
set_option maxRecDepth 100000 in
theorem kx137_k : fx_chk TX 4 kx137_c 0 kx137_x t_X1_countOf kx137_a kx137_s 15 = true := by decide +kernel
set_option maxRecDepth 100000 in
theorem kx137 {l : Launch} {E : (Nat → Prop) → State → Prop} {ad : List Nat} {D : va_G} {gs : List Nat} {cy : Nat → ClassId} (h : fxX E D cy) : fx_Met l yX1_countOf (.code yX1_countOf cX1_countOf 4 (some .int) :: wsL_law) ({ frames := 1, cells := 0, slots := 0, locals := 21 }) E (gs, TX, cy, fun _ => True) ad D classes kx137_c :=
  fx_sound (x := kx137_x) (tb := t_X1_countOf) (an := kx137_a) (sp := kx137_s) (rk := 0) 15 h.1 (fun _ _ _ _ _ _ => trivial) (fun _ _ _ _ _ _ => trivial) (ht_tys cy) (by decide) rfl ⟨fx_an, (fx_ac fl_X1_21 (fx_an)), fx_an, fx_an, fx_an, (fx_ac (ev_V (kx112 h) (by decide) rfl ⟨by decide, by decide⟩ iV_X1_at g_X1_36) (fx_an))⟩ d_X1_countOf kx137_k
-- X0_push 9 i
def kx138_c : fx_C := ([.inr (.inr 10), .inl (-2147483648, 2147483647)], [], [(none, [.inr (.inr 10), .inl (-2147483648, 2147483647)], [])], [(0, 5), (1000, 19)])
def kx138_a : List fx_N := []
def kx138_s : List fx_D := []
def kx138_x : fx_X := ([], [(16, 0, 2), (35, 0, 5)], [(35, 0, 5, 0)], [], [], [])
set_option maxRecDepth 100000 in
theorem kx138_k : fx_chk TX 2 kx138_c 9 kx138_x t_X0_push kx138_a kx138_s 24 = true := by decide +kernel
set_option maxRecDepth 100000 in
theorem kx138 {l : Launch} {E : (Nat → Prop) → State → Prop} {ad : List Nat} {D : va_G} {gs : List Nat} {cy : Nat → ClassId} (h : fxX E D cy) : fx_Met l yX0_push (.code yX0_push cX0_push 2 none :: wsL_law) ({ frames := 0, cells := 0, slots := 0, locals := 0 }) E (gs, TX, cy, fun _ => True) ad D classes kx138_c :=
  fx_sound (x := kx138_x) (tb := t_X0_push) (an := kx138_a) (sp := kx138_s) (rk := 9) 24 h.1 (fun _ _ _ _ _ _ => trivial) (fun _ _ _ _ _ _ => trivial) (ht_tys cy) (by decide) rfl ⟨fx_an, (fx_ac fl_X0_16 (fx_ac fl_X0_35 (fx_an))), (fx_ac pl_X0_35 (fx_an)), fx_an, fx_an, fx_an⟩ d_X0_push kx138_k
-- X0_pop 9
def kx139_c : fx_C := ([.inr (.inr 10)], [], [(some (.inl (0, 0)), [.inr (.inr 10)], []), (some (.inl (-2147483648, 2147483647)), [.inr (.inr 10)], [((0, 5), .inl (0, 63))])], [(0, 5)])
def kx139_a : List fx_N := []
def kx139_s : List fx_D := []
def kx139_x : fx_X := ([], [(16, 0, 2), (35, 0, 5)], [(35, 0, 5, 0)], [], [], [])
set_option maxRecDepth 100000 in
theorem kx139_k : fx_chk TX 1 kx139_c 0 kx139_x t_X0_pop kx139_a kx139_s 24 = true := by decide +kernel
set_option maxRecDepth 100000 in
theorem kx139 {l : Launch} {E : (Nat → Prop) → State → Prop} {ad : List Nat} {D : va_G} {gs : List Nat} {cy : Nat → ClassId} (h : fxX E D cy) : fx_Met l yX0_pop (.code yX0_pop cX0_pop 1 (some .int) :: wsL_law) ({ frames := 0, cells := 0, slots := 0, locals := 0 }) E (gs, TX, cy, fun _ => True) ad D classes kx139_c :=
  fx_sound (x := kx139_x) (tb := t_X0_pop) (an := kx139_a) (sp := kx139_s) (rk := 0) 24 h.1 (fun _ _ _ _ _ _ => trivial) (fun _ _ _ _ _ _ => trivial) (ht_tys cy) (by decide) rfl ⟨fx_an, (fx_ac fl_X0_16 (fx_ac fl_X0_35 (fx_an))), (fx_ac pl_X0_35 (fx_an)), fx_an, fx_an, fx_an⟩ d_X0_pop kx139_k
-- X0_truth i
def kx140_c : fx_C := ([.inl (0, 1)], [], [(some (.inl (1, 1)), [.inl (1, 1)], []), (some (.inl (0, 0)), [.inl (0, 0)], [])], [])
def kx140_a : List fx_N := []
def kx140_s : List fx_D := []
def kx140_x : fx_X := ([], [], [], [], [], [])
set_option maxRecDepth 100000 in
theorem kx140_k : fx_chk TX 1 kx140_c 0 kx140_x t_X0_truth kx140_a kx140_s 7 = true := by decide +kernel
set_option maxRecDepth 100000 in
theorem kx140 {l : Launch} {E : (Nat → Prop) → State → Prop} {ad : List Nat} {D : va_G} {gs : List Nat} {cy : Nat → ClassId} (h : fxX E D cy) : fx_Met l yX0_truth (.code yX0_truth cX0_truth 1 (some .int) :: wsL_law) ({ frames := 0, cells := 0, slots := 0, locals := 0 }) E (gs, TX, cy, fun _ => True) ad D classes kx140_c :=
  fx_sound (x := kx140_x) (tb := t_X0_truth) (an := kx140_a) (sp := kx140_s) (rk := 0) 7 h.1 (fun _ _ _ _ _ _ => trivial) (fun _ _ _ _ _ _ => trivial) (ht_tys cy) (by decide) rfl ⟨fx_an, fx_an, fx_an, fx_an, fx_an, fx_an⟩ d_X0_truth kx140_k
-- X0_joined i i i
def kx141_c : fx_C := ([.inl (-2147483648, 2147483647), .inl (-2147483648, 2147483647), .inl (-2147483648, 2147483647)], [], [(some (.inl (0, 0)), [.inl (-2147483648, 2147483647), .inl (-2147483648, 2147483647), .inl (-2147483648, 2147483647)], []), (some (.inl (1, 1)), [.inl (60, 263), .inl (-2147483648, 2147483647), .inl (-2147483648, 2147483647)], []), (some (.inl (-2147483648, 2147483647)), [.inl (37, 47), .inl (-2147483648, 2147483647), .inl (-2147483648, 2147483647)], [])], [])
def kx141_a : List fx_N := []
def kx141_s : List fx_D := []
def kx141_x : fx_X := ([], [], [], [], [], [(138, 50, 1000, kx140_c), (152, 50, 1000, kx140_c), (166, 50, 1000, kx140_c), (183, 50, 1000, kx140_c), (200, 50, 1000, kx140_c)])
set_option maxRecDepth 100000 in
theorem kx141_k : fx_chk TX 3 kx141_c 0 kx141_x t_X0_joined kx141_a kx141_s 12 = true := by decide +kernel
set_option maxRecDepth 100000 in
theorem kx141 {l : Launch} {E : (Nat → Prop) → State → Prop} {ad : List Nat} {D : va_G} {gs : List Nat} {cy : Nat → ClassId} (h : fxX E D cy) : fx_Met l yX0_joined (.code yX0_joined cX0_joined 3 (some .int) :: wsL_law) ({ frames := 1, cells := 0, slots := 0, locals := 20 }) E (gs, TX, cy, fun _ => True) ad D classes kx141_c :=
  fx_sound (x := kx141_x) (tb := t_X0_joined) (an := kx141_a) (sp := kx141_s) (rk := 0) 12 h.1 (fun _ _ _ _ _ _ => trivial) (fun _ _ _ _ _ _ => trivial) (ht_tys cy) (by decide) rfl ⟨fx_an, fx_an, fx_an, fx_an, fx_an, (fx_ac (ev_S (kx140 h) ⟨by decide, by decide⟩ iS_X0_truth g_X0_50) (fx_ac (ev_S (kx140 h) ⟨by decide, by decide⟩ iS_X0_truth g_X0_50) (fx_ac (ev_S (kx140 h) ⟨by decide, by decide⟩ iS_X0_truth g_X0_50) (fx_ac (ev_S (kx140 h) ⟨by decide, by decide⟩ iS_X0_truth g_X0_50) (fx_ac (ev_S (kx140 h) ⟨by decide, by decide⟩ iS_X0_truth g_X0_50) (fx_an))))))⟩ d_X0_joined kx141_k
-- X0_result 9
def kx142_c : fx_C := ([.inr (.inr 10)], [], [(some (.inl (-2147483648, 2147483647)), [.inr (.inr 10)], [((0, 5), .inl (0, 63))]), (some (.inl (0, 0)), [.inr (.inr 10)], [])], [(0, 5), (1000, 19)])
def kx142_a : List fx_N := [(7, [(0, .inr (.inr 10)), (1, .inl (0, 512))], [], [(0, 0), (1, 1), (0, 0)], [(0, 0)])]
def kx142_s : List fx_D := []
def kx142_x : fx_X := ([], [(9, 0, 0), (13, 0, 1), (21, 0, 3), (24, 0, 4)], [(35, 0, 5, 0)], [], [], [(42, 38, 0, kx138_c), (49, 42, 1000, kx25_c), (66, 38, 0, kx138_c), (81, 46, 0, kx139_c), (92, 50, 1000, kx140_c), (95, 38, 0, kx138_c), (102, 46, 0, kx139_c), (107, 46, 0, kx139_c), (117, 54, 1000, kx141_c), (120, 38, 0, kx138_c), (130, 46, 0, kx139_c)])
set_option maxRecDepth 100000 in
theorem kx142_k : fx_chk TX 5 kx142_c 0 kx142_x t_X0_result kx142_a kx142_s 38 = true := by decide +kernel
set_option maxRecDepth 100000 in
theorem kx142 {l : Launch} {E : (Nat → Prop) → State → Prop} {ad : List Nat} {D : va_G} {gs : List Nat} {cy : Nat → ClassId} (h : fxX E D cy) : fx_Met l yX0_result (.code yX0_result cX0_result 5 (some .int) :: wsL_law) ({ frames := 2, cells := 0, slots := 0, locals := 42 }) E (gs, TX, cy, fun _ => True) ad D classes kx142_c :=
  fx_sound (x := kx142_x) (tb := t_X0_result) (an := kx142_a) (sp := kx142_s) (rk := 0) 38 h.1 (fun _ _ _ _ _ _ => trivial) (fun _ _ _ _ _ _ => trivial) (ht_tys cy) (by decide) rfl ⟨fx_an, (fx_ac fl_X0_9 (fx_ac fl_X0_13 (fx_ac fl_X0_21 (fx_ac fl_X0_24 (fx_an))))), (fx_ac pl_X0_35 (fx_an)), fx_an, fx_an, (fx_ac (ev_V (kx138 h) (by decide) rfl ⟨by decide, by decide⟩ iV_X0_push g_X0_38) (fx_ac (ev_S (kx25 h) ⟨by decide, by decide⟩ iS_X9_isKnownKey g_X0_42) (fx_ac (ev_V (kx138 h) (by decide) rfl ⟨by decide, by decide⟩ iV_X0_push g_X0_38) (fx_ac (ev_V (kx139 h) (by decide) rfl ⟨by decide, by decide⟩ iV_X0_pop g_X0_46) (fx_ac (ev_S (kx140 h) ⟨by decide, by decide⟩ iS_X0_truth g_X0_50) (fx_ac (ev_V (kx138 h) (by decide) rfl ⟨by decide, by decide⟩ iV_X0_push g_X0_38) (fx_ac (ev_V (kx139 h) (by decide) rfl ⟨by decide, by decide⟩ iV_X0_pop g_X0_46) (fx_ac (ev_V (kx139 h) (by decide) rfl ⟨by decide, by decide⟩ iV_X0_pop g_X0_46) (fx_ac (ev_S (kx141 h) ⟨by decide, by decide⟩ iS_X0_joined g_X0_54) (fx_ac (ev_V (kx138 h) (by decide) rfl ⟨by decide, by decide⟩ iV_X0_push g_X0_38) (fx_ac (ev_V (kx139 h) (by decide) rfl ⟨by decide, by decide⟩ iV_X0_pop g_X0_46) (fx_an))))))))))))⟩ d_X0_result kx142_k
-- X10_missOf 8 11 i
def kx143_c : fx_C := ([.inr (.inr 9), .inr (.inr 12), .inl (0, 11)], [], [(some (.inl (0, 0)), [.inr (.inr 9), .inr (.inr 12), .inl (0, 11)], []), (some (.inl (-2147483648, 2147483647)), [.inr (.inr 9), .inr (.inr 12), .inl (0, 11)], [])], [(0, 5), (1000, 19), (1000, 20)])
def kx143_a : List fx_N := []
def kx143_s : List fx_D := []
def kx143_x : fx_X := ([], [(42, 10, 6), (77, 1, 1), (91, 0, 7)], [], [], [], [(2, 80, 1, kx112_c), (18, 88, 10, kx128_c), (31, 88, 10, kx128_c), (34, 96, 0, kx136_c), (45, 96, 0, kx136_c), (59, 96, 0, kx136_c), (71, 100, 1, kx137_c), (74, 96, 0, kx136_c), (89, 80, 1, kx112_c), (93, 84, 10, kx130_c), (96, 96, 0, kx136_c), (112, 80, 1, kx112_c), (115, 84, 10, kx130_c), (118, 96, 0, kx136_c), (125, 103, 0, kx142_c)])
set_option maxRecDepth 100000 in
theorem kx143_k : fx_chk TX 4 kx143_c 0 kx143_x t_X10_missOf kx143_a kx143_s 63 = true := by decide +kernel
set_option maxRecDepth 100000 in
theorem kx143 {l : Launch} {E : (Nat → Prop) → State → Prop} {ad : List Nat} {D : va_G} {gs : List Nat} {cy : Nat → ClassId} (h : fxX E D cy) : fx_Met l yX10_missOf (.code yX10_missOf cX10_missOf 4 (some .int) :: wsL_law) ({ frames := 3, cells := 0, slots := 0, locals := 66 }) E (gs, TX, cy, fun _ => True) ad D classes kx143_c :=
  fx_sound (x := kx143_x) (tb := t_X10_missOf) (an := kx143_a) (sp := kx143_s) (rk := 0) 63 h.1 (fun _ _ _ _ _ _ => trivial) (fun _ _ _ _ _ _ => trivial) (ht_tys cy) (by decide) rfl ⟨fx_an, (fx_ac fl_X10_42 (fx_ac fl_X10_77 (fx_ac fl_X10_91 (fx_an)))), fx_an, fx_an, fx_an, (fx_ac (ev_V (kx112 h) (by decide) rfl ⟨by decide, by decide⟩ iV_X1_at g_X10_80) (fx_ac (ev_V (kx128 h) (by decide) rfl ⟨by decide, by decide⟩ iV_X10_worthOf g_X10_88) (fx_ac (ev_V (kx128 h) (by decide) rfl ⟨by decide, by decide⟩ iV_X10_worthOf g_X10_88) (fx_ac (ev_V (kx136 h) (by decide) rfl ⟨by decide, by decide⟩ iV_X0_know g_X10_96) (fx_ac (ev_V (kx136 h) (by decide) rfl ⟨by decide, by decide⟩ iV_X0_know g_X10_96) (fx_ac (ev_V (kx136 h) (by decide) rfl ⟨by decide, by decide⟩ iV_X0_know g_X10_96) (fx_ac (ev_V (kx137 h) (by decide) rfl ⟨by decide, by decide⟩ iV_X1_countOf g_X10_100) (fx_ac (ev_V (kx136 h) (by decide) rfl ⟨by decide, by decide⟩ iV_X0_know g_X10_96) (fx_ac (ev_V (kx112 h) (by decide) rfl ⟨by decide, by decide⟩ iV_X1_at g_X10_80) (fx_ac (ev_V (kx130 h) (by decide) rfl ⟨by decide, by decide⟩ iV_X10_weightOf g_X10_84) (fx_ac (ev_V (kx136 h) (by decide) rfl ⟨by decide, by decide⟩ iV_X0_know g_X10_96) (fx_ac (ev_V (kx112 h) (by decide) rfl ⟨by decide, by decide⟩ iV_X1_at g_X10_80) (fx_ac (ev_V (kx130 h) (by decide) rfl ⟨by decide, by decide⟩ iV_X10_weightOf g_X10_84) (fx_ac (ev_V (kx136 h) (by decide) rfl ⟨by decide, by decide⟩ iV_X0_know g_X10_96) (fx_ac (ev_V (kx142 h) (by decide) rfl ⟨by decide, by decide⟩ iV_X0_result g_X10_103) (fx_an))))))))))))))))⟩ d_X10_missOf kx143_k
-- X11_miss 0 i
def kx144_c : fx_C := ([.inr (.inr 1), .inl (-2147483648, 2147483647)], [], [(some (.inl (-1000000, -1000000)), [.inr (.inr 1), .inl (-2147483648, 2147483647)], []), (some (.inl (-2147483648, 2147483647)), [.inr (.inr 1), .inl (0, 11)], [((0, 1), .inr (.inr 3)), ((2, 0), .inr (.inr 11)), ((3, 0), .inr (.inr 12)), ((4, 1), .inl (1, 12))]), (some (.inl (0, 0)), [.inr (.inr 1), .inl (0, 11)], [((0, 1), .inr (.inr 3)), ((2, 0), .inr (.inr 11)), ((3, 0), .inr (.inr 12)), ((4, 1), .inl (1, 12))])], [(0, 5), (1000, 19), (1000, 20)])
def kx144_a : List fx_N := []
def kx144_s : List fx_D := []
def kx144_x : fx_X := ([], [(19, 11, 1), (66, 11, 8), (114, 5, 0), (118, 8, 0)], [], [(147, -1000000)], [], [(13, 152, 1, kx135_c), (25, 155, 10, kx143_c)])
set_option maxRecDepth 100000 in
theorem kx144_k : fx_chk TX 3 kx144_c 0 kx144_x t_X11_miss kx144_a kx144_s 18 = true := by decide +kernel
set_option maxRecDepth 100000 in
theorem kx144 {l : Launch} {E : (Nat → Prop) → State → Prop} {ad : List Nat} {D : va_G} {gs : List Nat} {cy : Nat → ClassId} (h : fxX E D cy) : fx_Met l yX11_miss (.code yX11_miss cX11_miss 3 (some .int) :: wsL_law) ({ frames := 4, cells := 0, slots := 0, locals := 89 }) E (gs, TX, cy, fun _ => True) ad D classes kx144_c :=
  fx_sound (x := kx144_x) (tb := t_X11_miss) (an := kx144_a) (sp := kx144_s) (rk := 0) 18 h.1 (fun _ _ _ _ _ _ => trivial) (fun _ _ _ _ _ _ => trivial) (ht_tys cy) (by decide) rfl ⟨fx_an, (fx_ac fl_X11_19 (fx_ac fl_X11_66 (fx_ac fl_X11_114 (fx_ac fl_X11_118 (fx_an))))), fx_an, (fx_ac kc_X11_147 (fx_an)), fx_an, (fx_ac (ev_V (kx135 h) (by decide) rfl ⟨by decide, by decide⟩ iV_X1_has g_X11_152) (fx_ac (ev_V (kx143 h) (by decide) rfl ⟨by decide, by decide⟩ iV_X10_missOf g_X11_155) (fx_an)))⟩ d_X11_miss kx144_k
-- X10_placeMissed 8 11 i
def kx145_c : fx_C := ([.inr (.inr 9), .inr (.inr 12), .inl (0, 1)], [], [(some (.inl (-1, 11)), [.inr (.inr 9), .inr (.inr 12), .inl (0, 1)], [])], [(0, 5), (1000, 19), (1000, 20)])
def kx145_a : List fx_N := [(8, [(0, .inr (.inr 9)), (1, .inr (.inr 12)), (2, .inl (0, 1)), (3, .inl (-1, 11)), (4, .inl (-2147483648, 2147483647)), (5, .inl (0, 12))], [], [(0, 0), (1, 5), (0, 0)], [(0, 0), (1, 1), (2, 2)])]
def kx145_s : List fx_D := []
def kx145_x : fx_X := ([], [(77, 1, 1)], [], [], [], [(21, 107, 10, kx143_c)])
set_option maxRecDepth 100000 in
theorem kx145_k : fx_chk TX 7 kx145_c 0 kx145_x t_X10_placeMissed kx145_a kx145_s 27 = true := by decide +kernel
set_option maxRecDepth 100000 in
theorem kx145 {l : Launch} {E : (Nat → Prop) → State → Prop} {ad : List Nat} {D : va_G} {gs : List Nat} {cy : Nat → ClassId} (h : fxX E D cy) : fx_Met l yX10_placeMissed (.code yX10_placeMissed cX10_placeMissed 7 (some .int) :: wsL_law) ({ frames := 4, cells := 0, slots := 0, locals := 89 }) E (gs, TX, cy, fun _ => True) ad D classes kx145_c :=
  fx_sound (x := kx145_x) (tb := t_X10_placeMissed) (an := kx145_a) (sp := kx145_s) (rk := 0) 27 h.1 (fun _ _ _ _ _ _ => trivial) (fun _ _ _ _ _ _ => trivial) (ht_tys cy) (by decide) rfl ⟨fx_an, (fx_ac fl_X10_77 (fx_an)), fx_an, fx_an, fx_an, (fx_ac (ev_V (kx143 h) (by decide) rfl ⟨by decide, by decide⟩ iV_X10_missOf g_X10_107) (fx_an))⟩ d_X10_placeMissed kx145_k
-- X11_missed 0 i
def kx146_c : fx_C := ([.inr (.inr 1), .inl (-2147483648, 2147483647)], [], [(some (.inl (-1, -1)), [.inr (.inr 1), .inl (-2147483648, 2147483647)], []), (some (.inl (-1, 11)), [.inr (.inr 1), .inl (0, 1)], [])], [(0, 5), (1000, 19), (1000, 20)])
def kx146_a : List fx_N := []
def kx146_s : List fx_D := []
def kx146_x : fx_X := ([], [(19, 11, 1), (66, 11, 8), (114, 5, 0), (118, 8, 0)], [], [], [], [(35, 159, 10, kx145_c)])
set_option maxRecDepth 100000 in
theorem kx146_k : fx_chk TX 2 kx146_c 0 kx146_x t_X11_missed kx146_a kx146_s 20 = true := by decide +kernel
set_option maxRecDepth 100000 in
theorem kx146 {l : Launch} {E : (Nat → Prop) → State → Prop} {ad : List Nat} {D : va_G} {gs : List Nat} {cy : Nat → ClassId} (h : fxX E D cy) : fx_Met l yX11_missed (.code yX11_missed cX11_missed 2 (some .int) :: wsL_law) ({ frames := 5, cells := 0, slots := 0, locals := 115 }) E (gs, TX, cy, fun _ => True) ad D classes kx146_c :=
  fx_sound (x := kx146_x) (tb := t_X11_missed) (an := kx146_a) (sp := kx146_s) (rk := 0) 20 h.1 (fun _ _ _ _ _ _ => trivial) (fun _ _ _ _ _ _ => trivial) (ht_tys cy) (by decide) rfl ⟨fx_an, (fx_ac fl_X11_19 (fx_ac fl_X11_66 (fx_ac fl_X11_114 (fx_ac fl_X11_118 (fx_an))))), fx_an, fx_an, fx_an, (fx_ac (ev_V (kx145 h) (by decide) rfl ⟨by decide, by decide⟩ iV_X10_placeMissed g_X11_159) (fx_an))⟩ d_X11_missed kx146_k
-- X1_bits 11
def kx147_c : fx_C := ([.inr (.inr 12)], [], [(some (.inl (-2147483648, 2147483647)), [.inr (.inr 12)], [])], [])
def kx147_a : List fx_N := [(4, [(0, .inr (.inr 12)), (1, .inl (-2147483648, 2147483647)), (2, .inl (0, 12))], [], [(0, 0), (1, 2), (0, 0)], [(0, 0)])]
def kx147_s : List fx_D := []
def kx147_x : fx_X := ([], [(21, 1, 1)], [], [], [], [(16, 36, 1, kx112_c)])
set_option maxRecDepth 100000 in
theorem kx147_k : fx_chk TX 3 kx147_c 0 kx147_x t_X1_bits kx147_a kx147_s 17 = true := by decide +kernel
set_option maxRecDepth 100000 in
theorem kx147 {l : Launch} {E : (Nat → Prop) → State → Prop} {ad : List Nat} {D : va_G} {gs : List Nat} {cy : Nat → ClassId} (h : fxX E D cy) : fx_Met l yX1_bits (.code yX1_bits cX1_bits 3 (some .int) :: wsL_law) ({ frames := 1, cells := 0, slots := 0, locals := 21 }) E (gs, TX, cy, fun _ => True) ad D classes kx147_c :=
  fx_sound (x := kx147_x) (tb := t_X1_bits) (an := kx147_a) (sp := kx147_s) (rk := 0) 17 h.1 (fun _ _ _ _ _ _ => trivial) (fun _ _ _ _ _ _ => trivial) (ht_tys cy) (by decide) rfl ⟨fx_an, (fx_ac fl_X1_21 (fx_an)), fx_an, fx_an, fx_an, (fx_ac (ev_V (kx112 h) (by decide) rfl ⟨by decide, by decide⟩ iV_X1_at g_X1_36) (fx_an))⟩ d_X1_bits kx147_k
-- X1_bits 64
def kx148_c : fx_C := ([.inr (.inr 65)], [], [(some (.inl (-2147483648, 2147483647)), [.inr (.inr 65)], [])], [])
def kx148_a : List fx_N := [(4, [(0, .inr (.inr 65)), (1, .inl (-2147483648, 2147483647)), (2, .inl (0, 8))], [], [(0, 0), (1, 2), (0, 0)], [(0, 0)])]
def kx148_s : List fx_D := []
def kx148_x : fx_X := ([], [(21, 1, 1)], [], [], [], [(16, 36, 1, kx118_c)])
set_option maxRecDepth 100000 in
theorem kx148_k : fx_chk TX 3 kx148_c 0 kx148_x t_X1_bits kx148_a kx148_s 17 = true := by decide +kernel
set_option maxRecDepth 100000 in
theorem kx148 {l : Launch} {E : (Nat → Prop) → State → Prop} {ad : List Nat} {D : va_G} {gs : List Nat} {cy : Nat → ClassId} (h : fxX E D cy) : fx_Met l yX1_bits (.code yX1_bits cX1_bits 3 (some .int) :: wsL_law) ({ frames := 1, cells := 0, slots := 0, locals := 21 }) E (gs, TX, cy, fun _ => True) ad D classes kx148_c :=
  fx_sound (x := kx148_x) (tb := t_X1_bits) (an := kx148_a) (sp := kx148_s) (rk := 0) 17 h.1 (fun _ _ _ _ _ _ => trivial) (fun _ _ _ _ _ _ => trivial) (ht_tys cy) (by decide) rfl ⟨fx_an, (fx_ac fl_X1_21 (fx_an)), fx_an, fx_an, fx_an, (fx_ac (ev_V (kx118 h) (by decide) rfl ⟨by decide, by decide⟩ iV_X1_at g_X1_36) (fx_an))⟩ d_X1_bits kx148_k
-- X11_lacks 0 i
def kx149_c : fx_C := ([.inr (.inr 1), .inl (-2147483648, 2147483647)], [], [(some (.inl (-2147483648, 2147483647)), [.inr (.inr 1), .inl (0, 4)], [((0, 8), .inr (.inr 9)), ((2, 9), .inl (1, 5))]), (some (.inl (-1, -1)), [.inr (.inr 1), .inl (-2147483648, 2147483647)], [])], [])
def kx149_a : List fx_N := []
def kx149_s : List fx_D := []
def kx149_x : fx_X := ([], [(19, 11, 1), (114, 5, 0), (118, 8, 0)], [], [], [], [(2, 127, 11, kx124_c), (24, 163, 1, kx147_c), (28, 163, 1, kx148_c)])
set_option maxRecDepth 100000 in
theorem kx149_k : fx_chk TX 3 kx149_c 0 kx149_x t_X11_lacks kx149_a kx149_s 19 = true := by decide +kernel
set_option maxRecDepth 100000 in
theorem kx149 {l : Launch} {E : (Nat → Prop) → State → Prop} {ad : List Nat} {D : va_G} {gs : List Nat} {cy : Nat → ClassId} (h : fxX E D cy) : fx_Met l yX11_lacks (.code yX11_lacks cX11_lacks 3 (some .int) :: wsL_law) ({ frames := 2, cells := 0, slots := 0, locals := 43 }) E (gs, TX, cy, fun _ => True) ad D classes kx149_c :=
  fx_sound (x := kx149_x) (tb := t_X11_lacks) (an := kx149_a) (sp := kx149_s) (rk := 0) 19 h.1 (fun _ _ _ _ _ _ => trivial) (fun _ _ _ _ _ _ => trivial) (ht_tys cy) (by decide) rfl ⟨fx_an, (fx_ac fl_X11_19 (fx_ac fl_X11_114 (fx_ac fl_X11_118 (fx_an)))), fx_an, fx_an, fx_an, (fx_ac (ev_V (kx124 h) (by decide) rfl ⟨by decide, by decide⟩ iV_X11_slipOf g_X11_127) (fx_ac (ev_V (kx147 h) (by decide) rfl ⟨by decide, by decide⟩ iV_X1_bits g_X11_163) (fx_ac (ev_V (kx148 h) (by decide) rfl ⟨by decide, by decide⟩ iV_X1_bits g_X11_163) (fx_an))))⟩ d_X11_lacks kx149_k
-- X11_isRule i
def kx150_c : fx_C := ([.inl (-2147483648, 2147483647)], [], [(some (.inl (1, 1)), [.inl (0, 2)], []), (some (.inl (0, 0)), [.inl (-2147483648, 2147483647)], [])], [])
def kx150_a : List fx_N := []
def kx150_s : List fx_D := []
def kx150_x : fx_X := ([], [], [], [], [], [])
set_option maxRecDepth 100000 in
theorem kx150_k : fx_chk TX 1 kx150_c 3 kx150_x t_X11_isRule kx150_a kx150_s 10 = true := by decide +kernel
set_option maxRecDepth 100000 in
theorem kx150 {l : Launch} {E : (Nat → Prop) → State → Prop} {ad : List Nat} {D : va_G} {gs : List Nat} {cy : Nat → ClassId} (h : fxX E D cy) : fx_Met l yX11_isRule (.code yX11_isRule cX11_isRule 1 (some .boolean) :: wsL_law) ({ frames := 0, cells := 0, slots := 0, locals := 0 }) E (gs, TX, cy, fun _ => True) ad D classes kx150_c :=
  fx_sound (x := kx150_x) (tb := t_X11_isRule) (an := kx150_a) (sp := kx150_s) (rk := 3) 10 h.1 (fun _ _ _ _ _ _ => trivial) (fun _ _ _ _ _ _ => trivial) (ht_tys cy) (by decide) rfl ⟨fx_an, fx_an, fx_an, fx_an, fx_an, fx_an⟩ d_X11_isRule kx150_k
-- X1_drop 11 i
def kx151_c : fx_C := ([.inr (.inr 12), .inl (-2147483648, 2147483647)], [], [(some (.inl (-1, -1)), [.inr (.inr 12), .inl (-2147483648, 2147483647)], []), (some (.inl (-2147483648, 2147483647)), [.inr (.inr 12), .inl (-2147483648, 2147483647)], [])], [(1, 1), (1000, 14)])
def kx151_a : List fx_N := [(21, [(0, .inr (.inr 12)), (2, .inl (-2147483648, 2147483647)), (3, .inl (1, 12))], [((0, 1), .inl (1, 12))], [(0, 0), (1, 2), (0, 0)], [(0, 0)])]
def kx151_s : List fx_D := []
def kx151_x : fx_X := ([], [(15, 1, 0), (21, 1, 1)], [(21, 1, 1, 0)], [], [], [(2, 29, 1, kx135_c)])
set_option maxRecDepth 100000 in
theorem kx151_k : fx_chk TX 4 kx151_c 0 kx151_x t_X1_drop kx151_a kx151_s 24 = true := by decide +kernel
set_option maxRecDepth 100000 in
theorem kx151 {l : Launch} {E : (Nat → Prop) → State → Prop} {ad : List Nat} {D : va_G} {gs : List Nat} {cy : Nat → ClassId} (h : fxX E D cy) : fx_Met l yX1_drop (.code yX1_drop cX1_drop 4 (some .int) :: wsL_law) ({ frames := 1, cells := 0, slots := 0, locals := 21 }) E (gs, TX, cy, fun _ => True) ad D classes kx151_c :=
  fx_sound (x := kx151_x) (tb := t_X1_drop) (an := kx151_a) (sp := kx151_s) (rk := 0) 24 h.1 (fun _ _ _ _ _ _ => trivial) (fun _ _ _ _ _ _ => trivial) (ht_tys cy) (by decide) rfl ⟨fx_an, (fx_ac fl_X1_15 (fx_ac fl_X1_21 (fx_an))), (fx_ac pl_X1_21 (fx_an)), fx_an, fx_an, (fx_ac (ev_V (kx135 h) (by decide) rfl ⟨by decide, by decide⟩ iV_X1_has g_X1_29) (fx_an))⟩ d_X1_drop kx151_k
-- X8_goRound 10 8 i
def kx152_c : fx_C := ([.inr (.inr 11), .inr (.inr 9), .inl (0, 2)], [], [(some (.inl (-1, -1)), [.inr (.inr 11), .inr (.inr 9), .inl (0, 2)], []), (some (.inl (-2147483648, 2147483647)), [.inr (.inr 11), .inr (.inr 9), .inl (0, 2)], [])], [(0, 5), (1, 1), (8, 1), (8, 2), (1000, 14), (1000, 19), (1000, 20)])
def kx152_a : List fx_N := []
def kx152_s : List fx_D := []
def kx152_x : fx_X := ([], [(14, 8, 0), (20, 8, 1), (24, 8, 2), (31, 1, 1)], [(20, 8, 1, 0), (24, 8, 2, 0)], [], [], [(67, 34, 10, kx145_c), (86, 40, 1, kx151_c)])
set_option maxRecDepth 100000 in
theorem kx152_k : fx_chk TX 4 kx152_c 0 kx152_x t_X8_goRound kx152_a kx152_s 38 = true := by decide +kernel
set_option maxRecDepth 100000 in
theorem kx152 {l : Launch} {E : (Nat → Prop) → State → Prop} {ad : List Nat} {D : va_G} {gs : List Nat} {cy : Nat → ClassId} (h : fxX E D cy) : fx_Met l yX8_goRound (.code yX8_goRound cX8_goRound 4 (some .int) :: wsL_law) ({ frames := 5, cells := 0, slots := 0, locals := 115 }) E (gs, TX, cy, fun _ => True) ad D classes kx152_c :=
  fx_sound (x := kx152_x) (tb := t_X8_goRound) (an := kx152_a) (sp := kx152_s) (rk := 0) 38 h.1 (fun _ _ _ _ _ _ => trivial) (fun _ _ _ _ _ _ => trivial) (ht_tys cy) (by decide) rfl ⟨fx_an, (fx_ac fl_X8_14 (fx_ac fl_X8_20 (fx_ac fl_X8_24 (fx_ac fl_X8_31 (fx_an))))), (fx_ac pl_X8_20 (fx_ac pl_X8_24 (fx_an))), fx_an, fx_an, (fx_ac (ev_V (kx145 h) (by decide) rfl ⟨by decide, by decide⟩ iV_X10_placeMissed g_X8_34) (fx_ac (ev_V (kx151 h) (by decide) rfl ⟨by decide, by decide⟩ iV_X1_drop g_X8_40) (fx_an)))⟩ d_X8_goRound kx152_k
-- X5_forgetOldest 2
def kx153_c : fx_C := ([.inr (.inr 3)], [((0, 5), .inl (40, 40))], [(none, [.inr (.inr 3)], [((0, 5), .inl (39, 39))])], [(5, 5), (1000, 28)])
def kx153_a : List fx_N := [(9, [(0, .inr (.inr 3)), (1, .inr (.inr 11)), (2, .inl (1, 41))], [((0, 5), .inl (40, 40))], [(0, 0), (1, 2), (0, 0)], [(0, 0)])]
def kx153_s : List fx_D := []
def kx153_x : fx_X := ([(5, 8)], [(21, 5, 2), (91, 5, 5)], [(91, 5, 5, 0)], [], [], [])
set_option maxRecDepth 100000 in
theorem kx153_k : fx_chk TX 3 kx153_c 9 kx153_x t_X5_forgetOldest kx153_a kx153_s 23 = true := by decide +kernel
set_option maxRecDepth 100000 in
theorem kx153 {l : Launch} {E : (Nat → Prop) → State → Prop} {ad : List Nat} {D : va_G} {gs : List Nat} {cy : Nat → ClassId} (h : fxX E D cy) : fx_Met l yX5_forgetOldest (.code yX5_forgetOldest cX5_forgetOldest 3 none :: wsL_law) ({ frames := 0, cells := 0, slots := 0, locals := 0 }) E (gs, TX, cy, fun _ => True) ad D classes kx153_c :=
  fx_sound (x := kx153_x) (tb := t_X5_forgetOldest) (an := kx153_a) (sp := kx153_s) (rk := 9) 23 h.1 (fun _ _ _ _ _ _ => trivial) (fun _ _ _ _ _ _ => trivial) (ht_tys cy) (by decide) rfl ⟨(fx_ac (oc_1 _) (fx_an)), (fx_ac fl_X5_21 (fx_ac fl_X5_91 (fx_an))), (fx_ac pl_X5_91 (fx_an)), fx_an, fx_an, fx_an⟩ d_X5_forgetOldest kx153_k
-- X5_noteAct 2
def kx154_c : fx_C := ([.inr (.inr 3)], [], [(none, [.inr (.inr 3)], [((0, 5), .inl (1, 40)), ((0, 6), .inl (1, 40))])], [(1, 1), (5, 5), (5, 6), (8, 1), (8, 2), (1000, 14), (1000, 28)])
def kx154_a : List fx_N := []
def kx154_s : List fx_D := []
def kx154_x : fx_X := ([], [(12, 5, 0), (21, 5, 2), (91, 5, 5)], [(91, 5, 5, 0), (97, 5, 6, 0)], [], [], [(10, 110, 5, kx153_c), (63, 103, 8, kx114_c)])
set_option maxRecDepth 100000 in
theorem kx154_k : fx_chk TX 1 kx154_c 9 kx154_x t_X5_noteAct kx154_a kx154_s 36 = true := by decide +kernel
set_option maxRecDepth 100000 in
theorem kx154 {l : Launch} {E : (Nat → Prop) → State → Prop} {ad : List Nat} {D : va_G} {gs : List Nat} {cy : Nat → ClassId} (h : fxX E D cy) : fx_Met l yX5_noteAct (.code yX5_noteAct cX5_noteAct 1 none :: wsL_law) ({ frames := 4, cells := 0, slots := 0, locals := 84 }) E (gs, TX, cy, fun _ => True) ad D classes kx154_c :=
  fx_sound (x := kx154_x) (tb := t_X5_noteAct) (an := kx154_a) (sp := kx154_s) (rk := 9) 36 h.1 (fun _ _ _ _ _ _ => trivial) (fun _ _ _ _ _ _ => trivial) (ht_tys cy) (by decide) rfl ⟨fx_an, (fx_ac fl_X5_12 (fx_ac fl_X5_21 (fx_ac fl_X5_91 (fx_an)))), (fx_ac pl_X5_91 (fx_ac pl_X5_97 (fx_an))), fx_an, fx_an, (fx_ac (ev_V (kx153 h) (by decide) rfl ⟨by decide, by decide⟩ iV_X5_forgetOldest g_X5_110) (fx_ac (ev_V (kx114 h) (by decide) rfl ⟨by decide, by decide⟩ iV_X8_copy g_X5_103) (fx_an)))⟩ d_X5_noteAct kx154_k
-- X5_passOn 2 8 i
def kx155_c : fx_C := ([.inr (.inr 3), .inr (.inr 9), .inl (0, 2)], [], [(some (.inl (-1, -1)), [.inr (.inr 3), .inr (.inr 9), .inl (0, 2)], []), (some (.inl (-2147483648, 2147483647)), [.inr (.inr 3), .inr (.inr 9), .inl (0, 2)], [((0, 5), .inl (1, 40)), ((0, 6), .inl (1, 40))])], [(0, 5), (1, 1), (5, 5), (5, 6), (8, 1), (8, 2), (1000, 14), (1000, 19), (1000, 20), (1000, 28)])
def kx155_a : List fx_N := []
def kx155_s : List fx_D := []
def kx155_x : fx_X := ([], [(12, 5, 0), (32, 8, 0), (45, 8, 1), (58, 1, 1)], [], [], [], [(35, 61, 8, kx152_c), (40, 65, 5, kx154_c)])
set_option maxRecDepth 100000 in
theorem kx155_k : fx_chk TX 4 kx155_c 0 kx155_x t_X5_passOn kx155_a kx155_s 23 = true := by decide +kernel
set_option maxRecDepth 100000 in
theorem kx155 {l : Launch} {E : (Nat → Prop) → State → Prop} {ad : List Nat} {D : va_G} {gs : List Nat} {cy : Nat → ClassId} (h : fxX E D cy) : fx_Met l yX5_passOn (.code yX5_passOn cX5_passOn 4 (some .int) :: wsL_law) ({ frames := 6, cells := 0, slots := 0, locals := 138 }) E (gs, TX, cy, fun _ => True) ad D classes kx155_c :=
  fx_sound (x := kx155_x) (tb := t_X5_passOn) (an := kx155_a) (sp := kx155_s) (rk := 0) 23 h.1 (fun _ _ _ _ _ _ => trivial) (fun _ _ _ _ _ _ => trivial) (ht_tys cy) (by decide) rfl ⟨fx_an, (fx_ac fl_X5_12 (fx_ac fl_X5_32 (fx_ac fl_X5_45 (fx_ac fl_X5_58 (fx_an))))), fx_an, fx_an, fx_an, (fx_ac (ev_V (kx152 h) (by decide) rfl ⟨by decide, by decide⟩ iV_X8_goRound g_X5_61) (fx_ac (ev_V (kx154 h) (by decide) rfl ⟨by decide, by decide⟩ iV_X5_noteAct g_X5_65) (fx_an)))⟩ d_X5_passOn kx155_k
-- X11_round 0 i
def kx156_c : fx_C := ([.inr (.inr 1), .inl (-2147483648, 2147483647)], [], [(some (.inl (-1, -1)), [.inr (.inr 1), .inl (-2147483648, 2147483647)], []), (some (.inl (-2147483648, 2147483647)), [.inr (.inr 1), .inl (0, 2)], [((0, 1), .inr (.inr 3)), ((2, 5), .inl (1, 40)), ((2, 6), .inl (1, 40))])], [(0, 5), (1, 1), (5, 5), (5, 6), (8, 1), (8, 2), (1000, 14), (1000, 19), (1000, 20), (1000, 28)])
def kx156_a : List fx_N := []
def kx156_s : List fx_D := []
def kx156_x : fx_X := ([], [(19, 11, 1), (66, 11, 8)], [], [], [], [(1, 167, 1000, kx150_c), (16, 170, 5, kx155_c)])
set_option maxRecDepth 100000 in
theorem kx156_k : fx_chk TX 2 kx156_c 0 kx156_x t_X11_round kx156_a kx156_s 13 = true := by decide +kernel
set_option maxRecDepth 100000 in
theorem kx156 {l : Launch} {E : (Nat → Prop) → State → Prop} {ad : List Nat} {D : va_G} {gs : List Nat} {cy : Nat → ClassId} (h : fxX E D cy) : fx_Met l yX11_round (.code yX11_round cX11_round 2 (some .int) :: wsL_law) ({ frames := 7, cells := 0, slots := 0, locals := 161 }) E (gs, TX, cy, fun _ => True) ad D classes kx156_c :=
  fx_sound (x := kx156_x) (tb := t_X11_round) (an := kx156_a) (sp := kx156_s) (rk := 0) 13 h.1 (fun _ _ _ _ _ _ => trivial) (fun _ _ _ _ _ _ => trivial) (ht_tys cy) (by decide) rfl ⟨fx_an, (fx_ac fl_X11_19 (fx_ac fl_X11_66 (fx_an))), fx_an, fx_an, fx_an, (fx_ac (ev_S (kx150 h) ⟨by decide, by decide⟩ iS_X11_isRule g_X11_167) (fx_ac (ev_V (kx155 h) (by decide) rfl ⟨by decide, by decide⟩ iV_X5_passOn g_X11_170) (fx_an)))⟩ d_X11_round kx156_k
-- X5_dropAt 2 i
def kx157_c : fx_C := ([.inr (.inr 3), .inl (-2147483648, 2147483647)], [], [(some (.inl (-1, -1)), [.inr (.inr 3), .inl (-2147483648, 2147483647)], []), (some (.inl (-2147483648, 2147483647)), [.inr (.inr 3), .inl (0, 11)], [((0, 5), .inl (1, 40)), ((0, 6), .inl (1, 40))])], [(1, 1), (5, 5), (5, 6), (8, 1), (8, 2), (1000, 14), (1000, 28)])
def kx157_a : List fx_N := []
def kx157_s : List fx_D := []
def kx157_x : fx_X := ([], [(12, 5, 0), (32, 8, 0)], [], [], [], [(8, 68, 1, kx135_c), (24, 72, 1, kx151_c), (29, 65, 5, kx154_c)])
set_option maxRecDepth 100000 in
theorem kx157_k : fx_chk TX 3 kx157_c 0 kx157_x t_X5_dropAt kx157_a kx157_s 18 = true := by decide +kernel
set_option maxRecDepth 100000 in
theorem kx157 {l : Launch} {E : (Nat → Prop) → State → Prop} {ad : List Nat} {D : va_G} {gs : List Nat} {cy : Nat → ClassId} (h : fxX E D cy) : fx_Met l yX5_dropAt (.code yX5_dropAt cX5_dropAt 3 (some .int) :: wsL_law) ({ frames := 5, cells := 0, slots := 0, locals := 104 }) E (gs, TX, cy, fun _ => True) ad D classes kx157_c :=
  fx_sound (x := kx157_x) (tb := t_X5_dropAt) (an := kx157_a) (sp := kx157_s) (rk := 0) 18 h.1 (fun _ _ _ _ _ _ => trivial) (fun _ _ _ _ _ _ => trivial) (ht_tys cy) (by decide) rfl ⟨fx_an, (fx_ac fl_X5_12 (fx_ac fl_X5_32 (fx_an))), fx_an, fx_an, fx_an, (fx_ac (ev_V (kx135 h) (by decide) rfl ⟨by decide, by decide⟩ iV_X1_has g_X5_68) (fx_ac (ev_V (kx151 h) (by decide) rfl ⟨by decide, by decide⟩ iV_X1_drop g_X5_72) (fx_ac (ev_V (kx154 h) (by decide) rfl ⟨by decide, by decide⟩ iV_X5_noteAct g_X5_65) (fx_an))))⟩ d_X5_dropAt kx157_k
-- X11_leave 0 i
def kx158_c : fx_C := ([.inr (.inr 1), .inl (-2147483648, 2147483647)], [], [(some (.inl (-2147483648, 2147483647)), [.inr (.inr 1), .inl (0, 11)], [((0, 1), .inr (.inr 3)), ((2, 5), .inl (1, 40)), ((2, 6), .inl (1, 40))]), (some (.inl (-1, -1)), [.inr (.inr 1), .inl (-2147483648, 2147483647)], [])], [(1, 1), (5, 5), (5, 6), (8, 1), (8, 2), (1000, 14), (1000, 28)])
def kx158_a : List fx_N := []
def kx158_s : List fx_D := []
def kx158_x : fx_X := ([], [(19, 11, 1)], [], [], [], [(5, 174, 5, kx157_c)])
set_option maxRecDepth 100000 in
theorem kx158_k : fx_chk TX 2 kx158_c 0 kx158_x t_X11_leave kx158_a kx158_s 7 = true := by decide +kernel
set_option maxRecDepth 100000 in
theorem kx158 {l : Launch} {E : (Nat → Prop) → State → Prop} {ad : List Nat} {D : va_G} {gs : List Nat} {cy : Nat → ClassId} (h : fxX E D cy) : fx_Met l yX11_leave (.code yX11_leave cX11_leave 2 (some .int) :: wsL_law) ({ frames := 6, cells := 0, slots := 0, locals := 126 }) E (gs, TX, cy, fun _ => True) ad D classes kx158_c :=
  fx_sound (x := kx158_x) (tb := t_X11_leave) (an := kx158_a) (sp := kx158_s) (rk := 0) 7 h.1 (fun _ _ _ _ _ _ => trivial) (fun _ _ _ _ _ _ => trivial) (ht_tys cy) (by decide) rfl ⟨fx_an, (fx_ac fl_X11_19 (fx_an)), fx_an, fx_an, fx_an, (fx_ac (ev_V (kx157 h) (by decide) rfl ⟨by decide, by decide⟩ iV_X5_dropAt g_X11_174) (fx_an))⟩ d_X11_leave kx158_k
-- X1_insert 11 i i
def kx159_c : fx_C := ([.inr (.inr 12), .inl (0, 12), .inl (0, 8)], [], [(none, [.inr (.inr 12), .inl (0, 12), .inl (0, 8)], [])], [(1, 1), (1000, 14)])
def kx159_a : List fx_N := [(25, [(0, .inr (.inr 12)), (1, .inl (0, 11)), (2, .inl (0, 8)), (3, .inl (0, 11))], [((0, 1), .inl (0, 11))], [(0, 0), (2, 3), (0, 0)], [(0, 0), (1, 1), (2, 2)])]
def kx159_s : List fx_D := []
def kx159_x : fx_X := ([], [(15, 1, 0), (21, 1, 1)], [(21, 1, 1, 0)], [], [], [(1, 25, 1, kx100_c)])
set_option maxRecDepth 100000 in
theorem kx159_k : fx_chk TX 4 kx159_c 9 kx159_x t_X1_insert kx159_a kx159_s 18 = true := by decide +kernel
set_option maxRecDepth 100000 in
theorem kx159 {l : Launch} {E : (Nat → Prop) → State → Prop} {ad : List Nat} {D : va_G} {gs : List Nat} {cy : Nat → ClassId} (h : fxX E D cy) : fx_Met l yX1_insert (.code yX1_insert cX1_insert 4 none :: wsL_law) ({ frames := 1, cells := 0, slots := 0, locals := 20 }) E (gs, TX, cy, fun _ => True) ad D classes kx159_c :=
  fx_sound (x := kx159_x) (tb := t_X1_insert) (an := kx159_a) (sp := kx159_s) (rk := 9) 18 h.1 (fun _ _ _ _ _ _ => trivial) (fun _ _ _ _ _ _ => trivial) (ht_tys cy) (by decide) rfl ⟨fx_an, (fx_ac fl_X1_15 (fx_ac fl_X1_21 (fx_an))), (fx_ac pl_X1_21 (fx_an)), fx_an, fx_an, (fx_ac (ev_V (kx100 h) (by decide) rfl ⟨by decide, by decide⟩ iV_X1_hasRoom g_X1_25) (fx_an))⟩ d_X1_insert kx159_k
-- X5_insertAt 2 i i
def kx160_c : fx_C := ([.inr (.inr 3), .inl (-2147483648, 2147483647), .inl (0, 8)], [], [(some (.inl (-1, -1)), [.inr (.inr 3), .inl (-2147483648, 2147483647), .inl (0, 8)], []), (some (.inl (0, 12)), [.inr (.inr 3), .inl (0, 11), .inl (0, 8)], [((0, 5), .inl (1, 40)), ((0, 6), .inl (1, 40))])], [(1, 1), (5, 5), (5, 6), (8, 1), (8, 2), (1000, 14), (1000, 28)])
def kx160_a : List fx_N := []
def kx160_s : List fx_D := []
def kx160_x : fx_X := ([], [(12, 5, 0), (32, 8, 0), (58, 1, 1)], [], [], [], [(7, 76, 1, kx100_c), (42, 80, 1, kx159_c), (46, 65, 5, kx154_c)])
set_option maxRecDepth 100000 in
theorem kx160_k : fx_chk TX 3 kx160_c 0 kx160_x t_X5_insertAt kx160_a kx160_s 28 = true := by decide +kernel
set_option maxRecDepth 100000 in
theorem kx160 {l : Launch} {E : (Nat → Prop) → State → Prop} {ad : List Nat} {D : va_G} {gs : List Nat} {cy : Nat → ClassId} (h : fxX E D cy) : fx_Met l yX5_insertAt (.code yX5_insertAt cX5_insertAt 3 (some .int) :: wsL_law) ({ frames := 5, cells := 0, slots := 0, locals := 104 }) E (gs, TX, cy, fun _ => True) ad D classes kx160_c :=
  fx_sound (x := kx160_x) (tb := t_X5_insertAt) (an := kx160_a) (sp := kx160_s) (rk := 0) 28 h.1 (fun _ _ _ _ _ _ => trivial) (fun _ _ _ _ _ _ => trivial) (ht_tys cy) (by decide) rfl ⟨fx_an, (fx_ac fl_X5_12 (fx_ac fl_X5_32 (fx_ac fl_X5_58 (fx_an)))), fx_an, fx_an, fx_an, (fx_ac (ev_V (kx100 h) (by decide) rfl ⟨by decide, by decide⟩ iV_X1_hasRoom g_X5_76) (fx_ac (ev_V (kx159 h) (by decide) rfl ⟨by decide, by decide⟩ iV_X1_insert g_X5_80) (fx_ac (ev_V (kx154 h) (by decide) rfl ⟨by decide, by decide⟩ iV_X5_noteAct g_X5_65) (fx_an))))⟩ d_X5_insertAt kx160_k
-- X11_put 0 i i
def kx161_c : fx_C := ([.inr (.inr 1), .inl (-2147483648, 2147483647), .inl (-2147483648, 2147483647)], [], [(some (.inl (-1, -1)), [.inr (.inr 1), .inl (-2147483648, 2147483647), .inl (-2147483648, 2147483647)], []), (some (.inl (0, 12)), [.inr (.inr 1), .inl (0, 11), .inl (0, 8)], [((0, 1), .inr (.inr 3)), ((3, 5), .inl (1, 40)), ((3, 6), .inl (1, 40)), ((0, 8), .inr (.inr 9)), ((6, 7), .inl (1, 9))])], [(1, 1), (5, 5), (5, 6), (8, 1), (8, 2), (1000, 14), (1000, 28)])
def kx161_a : List fx_N := []
def kx161_s : List fx_D := []
def kx161_x : fx_X := ([], [(19, 11, 1), (66, 11, 8)], [], [], [], [(5, 137, 10, kx103_c), (17, 177, 5, kx160_c)])
set_option maxRecDepth 100000 in
theorem kx161_k : fx_chk TX 3 kx161_c 0 kx161_x t_X11_put kx161_a kx161_s 14 = true := by decide +kernel
set_option maxRecDepth 100000 in
theorem kx161 {l : Launch} {E : (Nat → Prop) → State → Prop} {ad : List Nat} {D : va_G} {gs : List Nat} {cy : Nat → ClassId} (h : fxX E D cy) : fx_Met l yX11_put (.code yX11_put cX11_put 3 (some .int) :: wsL_law) ({ frames := 6, cells := 0, slots := 0, locals := 126 }) E (gs, TX, cy, fun _ => True) ad D classes kx161_c :=
  fx_sound (x := kx161_x) (tb := t_X11_put) (an := kx161_a) (sp := kx161_s) (rk := 0) 14 h.1 (fun _ _ _ _ _ _ => trivial) (fun _ _ _ _ _ _ => trivial) (ht_tys cy) (by decide) rfl ⟨fx_an, (fx_ac fl_X11_19 (fx_ac fl_X11_66 (fx_an))), fx_an, fx_an, fx_an, (fx_ac (ev_V (kx103 h) (by decide) rfl ⟨by decide, by decide⟩ iV_X10_hasWord g_X11_137) (fx_ac (ev_V (kx160 h) (by decide) rfl ⟨by decide, by decide⟩ iV_X5_insertAt g_X11_177) (fx_an)))⟩ d_X11_put kx161_k
-- X1_replace 11 i i
def kx162_c : fx_C := ([.inr (.inr 12), .inl (0, 11), .inl (0, 8)], [], [(some (.inl (-1, -1)), [.inr (.inr 12), .inl (0, 11), .inl (0, 8)], []), (some (.inl (-2147483648, 2147483647)), [.inr (.inr 12), .inl (0, 11), .inl (0, 8)], [((0, 1), .inl (1, 12))])], [(1000, 14)])
def kx162_a : List fx_N := []
def kx162_s : List fx_D := []
def kx162_x : fx_X := ([], [(15, 1, 0)], [], [], [], [(2, 29, 1, kx135_c)])
set_option maxRecDepth 100000 in
theorem kx162_k : fx_chk TX 4 kx162_c 0 kx162_x t_X1_replace kx162_a kx162_s 18 = true := by decide +kernel
set_option maxRecDepth 100000 in
theorem kx162 {l : Launch} {E : (Nat → Prop) → State → Prop} {ad : List Nat} {D : va_G} {gs : List Nat} {cy : Nat → ClassId} (h : fxX E D cy) : fx_Met l yX1_replace (.code yX1_replace cX1_replace 4 (some .int) :: wsL_law) ({ frames := 1, cells := 0, slots := 0, locals := 21 }) E (gs, TX, cy, fun _ => True) ad D classes kx162_c :=
  fx_sound (x := kx162_x) (tb := t_X1_replace) (an := kx162_a) (sp := kx162_s) (rk := 0) 18 h.1 (fun _ _ _ _ _ _ => trivial) (fun _ _ _ _ _ _ => trivial) (ht_tys cy) (by decide) rfl ⟨fx_an, (fx_ac fl_X1_15 (fx_an)), fx_an, fx_an, fx_an, (fx_ac (ev_V (kx135 h) (by decide) rfl ⟨by decide, by decide⟩ iV_X1_has g_X1_29) (fx_an))⟩ d_X1_replace kx162_k
-- X5_replaceAt 2 i i
def kx163_c : fx_C := ([.inr (.inr 3), .inl (-2147483648, 2147483647), .inl (0, 8)], [], [(some (.inl (-1, -1)), [.inr (.inr 3), .inl (-2147483648, 2147483647), .inl (0, 8)], []), (some (.inl (-2147483648, 2147483647)), [.inr (.inr 3), .inl (0, 11), .inl (0, 8)], [((0, 5), .inl (1, 40)), ((0, 6), .inl (1, 40))])], [(1, 1), (5, 5), (5, 6), (8, 1), (8, 2), (1000, 14), (1000, 28)])
def kx163_a : List fx_N := []
def kx163_s : List fx_D := []
def kx163_x : fx_X := ([], [(12, 5, 0), (32, 8, 0)], [], [], [], [(8, 68, 1, kx135_c), (22, 84, 1, kx112_c), (40, 87, 1, kx162_c), (45, 65, 5, kx154_c)])
set_option maxRecDepth 100000 in
theorem kx163_k : fx_chk TX 4 kx163_c 0 kx163_x t_X5_replaceAt kx163_a kx163_s 26 = true := by decide +kernel
set_option maxRecDepth 100000 in
theorem kx163 {l : Launch} {E : (Nat → Prop) → State → Prop} {ad : List Nat} {D : va_G} {gs : List Nat} {cy : Nat → ClassId} (h : fxX E D cy) : fx_Met l yX5_replaceAt (.code yX5_replaceAt cX5_replaceAt 4 (some .int) :: wsL_law) ({ frames := 5, cells := 0, slots := 0, locals := 104 }) E (gs, TX, cy, fun _ => True) ad D classes kx163_c :=
  fx_sound (x := kx163_x) (tb := t_X5_replaceAt) (an := kx163_a) (sp := kx163_s) (rk := 0) 26 h.1 (fun _ _ _ _ _ _ => trivial) (fun _ _ _ _ _ _ => trivial) (ht_tys cy) (by decide) rfl ⟨fx_an, (fx_ac fl_X5_12 (fx_ac fl_X5_32 (fx_an))), fx_an, fx_an, fx_an, (fx_ac (ev_V (kx135 h) (by decide) rfl ⟨by decide, by decide⟩ iV_X1_has g_X5_68) (fx_ac (ev_V (kx112 h) (by decide) rfl ⟨by decide, by decide⟩ iV_X1_at g_X5_84) (fx_ac (ev_V (kx162 h) (by decide) rfl ⟨by decide, by decide⟩ iV_X1_replace g_X5_87) (fx_ac (ev_V (kx154 h) (by decide) rfl ⟨by decide, by decide⟩ iV_X5_noteAct g_X5_65) (fx_an)))))⟩ d_X5_replaceAt kx163_k
-- X11_change 0 i i
def kx164_c : fx_C := ([.inr (.inr 1), .inl (-2147483648, 2147483647), .inl (-2147483648, 2147483647)], [], [(some (.inl (-1, -1)), [.inr (.inr 1), .inl (-2147483648, 2147483647), .inl (-2147483648, 2147483647)], []), (some (.inl (-2147483648, 2147483647)), [.inr (.inr 1), .inl (0, 11), .inl (0, 8)], [((0, 1), .inr (.inr 3)), ((3, 5), .inl (1, 40)), ((3, 6), .inl (1, 40)), ((0, 8), .inr (.inr 9)), ((6, 7), .inl (1, 9))])], [(1, 1), (5, 5), (5, 6), (8, 1), (8, 2), (1000, 14), (1000, 28)])
def kx164_a : List fx_N := []
def kx164_s : List fx_D := []
def kx164_x : fx_X := ([], [(19, 11, 1), (66, 11, 8)], [], [], [], [(5, 137, 10, kx103_c), (17, 180, 5, kx163_c)])
set_option maxRecDepth 100000 in
theorem kx164_k : fx_chk TX 3 kx164_c 0 kx164_x t_X11_change kx164_a kx164_s 14 = true := by decide +kernel
set_option maxRecDepth 100000 in
theorem kx164 {l : Launch} {E : (Nat → Prop) → State → Prop} {ad : List Nat} {D : va_G} {gs : List Nat} {cy : Nat → ClassId} (h : fxX E D cy) : fx_Met l yX11_change (.code yX11_change cX11_change 3 (some .int) :: wsL_law) ({ frames := 6, cells := 0, slots := 0, locals := 127 }) E (gs, TX, cy, fun _ => True) ad D classes kx164_c :=
  fx_sound (x := kx164_x) (tb := t_X11_change) (an := kx164_a) (sp := kx164_s) (rk := 0) 14 h.1 (fun _ _ _ _ _ _ => trivial) (fun _ _ _ _ _ _ => trivial) (ht_tys cy) (by decide) rfl ⟨fx_an, (fx_ac fl_X11_19 (fx_ac fl_X11_66 (fx_an))), fx_an, fx_an, fx_an, (fx_ac (ev_V (kx103 h) (by decide) rfl ⟨by decide, by decide⟩ iV_X10_hasWord g_X11_137) (fx_ac (ev_V (kx163 h) (by decide) rfl ⟨by decide, by decide⟩ iV_X5_replaceAt g_X11_180) (fx_an)))⟩ d_X11_change kx164_k
-- X5_takeFromTrail 2
def kx165_c : fx_C := ([.inr (.inr 3)], [], [(none, [.inr (.inr 3)], [])], [(1, 1), (8, 1), (8, 2), (1000, 14)])
def kx165_a : List fx_N := []
def kx165_s : List fx_D := []
def kx165_x : fx_X := ([], [(12, 5, 0), (21, 5, 2), (91, 5, 5)], [], [], [], [(32, 103, 8, kx114_c)])
set_option maxRecDepth 100000 in
theorem kx165_k : fx_chk TX 1 kx165_c 9 kx165_x t_X5_takeFromTrail kx165_a kx165_s 20 = true := by decide +kernel
set_option maxRecDepth 100000 in
theorem kx165 {l : Launch} {E : (Nat → Prop) → State → Prop} {ad : List Nat} {D : va_G} {gs : List Nat} {cy : Nat → ClassId} (h : fxX E D cy) : fx_Met l yX5_takeFromTrail (.code yX5_takeFromTrail cX5_takeFromTrail 1 none :: wsL_law) ({ frames := 4, cells := 0, slots := 0, locals := 84 }) E (gs, TX, cy, fun _ => True) ad D classes kx165_c :=
  fx_sound (x := kx165_x) (tb := t_X5_takeFromTrail) (an := kx165_a) (sp := kx165_s) (rk := 9) 20 h.1 (fun _ _ _ _ _ _ => trivial) (fun _ _ _ _ _ _ => trivial) (ht_tys cy) (by decide) rfl ⟨fx_an, (fx_ac fl_X5_12 (fx_ac fl_X5_21 (fx_ac fl_X5_91 (fx_an)))), fx_an, fx_an, fx_an, (fx_ac (ev_V (kx114 h) (by decide) rfl ⟨by decide, by decide⟩ iV_X8_copy g_X5_103) (fx_an))⟩ d_X5_takeFromTrail kx165_k
