-- X10_markOf 8 11
def kx331_c : fx_C := ([.inr (.inr 9), .inr (.inr 12)], [], [(some (.inl (-2147483648, 2147483647)), [.inr (.inr 9), .inr (.inr 12)], [])], [])
def kx331_a : List fx_N := [(4, [(0, .inr (.inr 9)), (1, .inr (.inr 12)), (2, .inl (-2147483648, 2147483647)), (3, .inl (0, 12))], [], [(0, 0), (1, 3), (0, 0)], [(0, 0), (1, 1)])]
def kx331_s : List fx_D := []
def kx331_x : fx_X := ([], [(77, 1, 1)], [], [], [], [(19, 80, 1, kx112_c), (22, 88, 10, kx128_c)])
set_option maxRecDepth 100000 in
theorem kx331_k : fx_chk TX 4 kx331_c 0 kx331_x t_X10_markOf kx331_a kx331_s 21 = true := by decide +kernel
set_option maxRecDepth 100000 in
theorem kx331 {l : Launch} {E : (Nat → Prop) → State → Prop} {ad : List Nat} {D : va_G} {gs : List Nat} {cy : Nat → ClassId} (h : fx_env E D classes (tys cy) nestW) : fx_Met l yX10_markOf (.code yX10_markOf cX10_markOf 4 (some .int) :: wsL_law) ({ frames := 2, cells := 0, slots := 0, locals := 42 }) E (gs, TX, cy, fun _ => True) ad D classes kx331_c :=
  fx_sound (x := kx331_x) (tb := t_X10_markOf) (an := kx331_a) (sp := kx331_s) (rk := 0) 21 h (fun _ _ _ _ => trivial) (ht_tys cy) (by decide) rfl ⟨fx_an, (fx_ac fl_X10_77 (fx_an)), fx_an, fx_an, fx_an, (fx_ac (ev_V (kx112 h) (by decide) rfl ⟨by decide, by decide⟩ iV_X1_at g_X10_80) (fx_ac (ev_V (kx128 h) (by decide) rfl ⟨by decide, by decide⟩ iV_X10_worthOf g_X10_88) (fx_an)))⟩ d_X10_markOf kx331_k
-- X11_mark 0 i
def kx332_c : fx_C := ([.inr (.inr 1), .inl (-2147483648, 2147483647)], [], [(some (.inl (-2147483648, 2147483647)), [.inr (.inr 1), .inl (-1, 4)], []), (some (.inl (-1, -1)), [.inr (.inr 1), .inl (-2147483648, 2147483647)], [])], [])
def kx332_a : List fx_N := []
def kx332_s : List fx_D := []
def kx332_x : fx_X := ([], [(66, 11, 8)], [], [], [], [(2, 131, 11, kx126_c), (19, 249, 10, kx330_c), (19, 249, 10, kx331_c)])
set_option maxRecDepth 100000 in
theorem kx332_k : fx_chk TX 3 kx332_c 0 kx332_x t_X11_mark kx332_a kx332_s 13 = true := by decide +kernel
set_option maxRecDepth 100000 in
theorem kx332 {l : Launch} {E : (Nat → Prop) → State → Prop} {ad : List Nat} {D : va_G} {gs : List Nat} {cy : Nat → ClassId} (h : fx_env E D classes (tys cy) nestW) : fx_Met l yX11_mark (.code yX11_mark cX11_mark 3 (some .int) :: wsL_law) ({ frames := 3, cells := 0, slots := 0, locals := 65 }) E (gs, TX, cy, fun _ => True) ad D classes kx332_c :=
  fx_sound (x := kx332_x) (tb := t_X11_mark) (an := kx332_a) (sp := kx332_s) (rk := 0) 13 h (fun _ _ _ _ => trivial) (ht_tys cy) (by decide) rfl ⟨fx_an, (fx_ac fl_X11_66 (fx_an)), fx_an, fx_an, fx_an, (fx_ac (ev_V (kx126 h) (by decide) rfl ⟨by decide, by decide⟩ iV_X11_lineOf g_X11_131) (fx_ac (ev_V (kx330 h) (by decide) rfl ⟨by decide, by decide⟩ iV_X10_markOf g_X11_249) (fx_ac (ev_V (kx331 h) (by decide) rfl ⟨by decide, by decide⟩ iV_X10_markOf g_X11_249) (fx_an))))⟩ d_X11_mark kx332_k
-- X3_shiftedMark 8 64
def kx333_c : fx_C := ([.inr (.inr 9), .inr (.inr 65)], [], [(some (.inl (-2147483648, 2147483647)), [.inr (.inr 9), .inr (.inr 65)], [])], [])
def kx333_a : List fx_N := [(4, [(0, .inr (.inr 9)), (1, .inr (.inr 65)), (2, .inl (-2147483648, 2147483647)), (3, .inl (0, 8))], [], [(0, 0), (1, 3), (0, 0)], [(0, 0), (1, 1)])]
def kx333_s : List fx_D := []
def kx333_x : fx_X := ([], [(40, 1, 1)], [], [], [], [(19, 73, 1, kx118_c), (22, 76, 10, kx128_c)])
set_option maxRecDepth 100000 in
theorem kx333_k : fx_chk TX 4 kx333_c 0 kx333_x t_X3_shiftedMark kx333_a kx333_s 21 = true := by decide +kernel
set_option maxRecDepth 100000 in
theorem kx333 {l : Launch} {E : (Nat → Prop) → State → Prop} {ad : List Nat} {D : va_G} {gs : List Nat} {cy : Nat → ClassId} (h : fx_env E D classes (tys cy) nestW) : fx_Met l yX3_shiftedMark (.code yX3_shiftedMark cX3_shiftedMark 4 (some .int) :: wsL_law) ({ frames := 2, cells := 0, slots := 0, locals := 42 }) E (gs, TX, cy, fun _ => True) ad D classes kx333_c :=
  fx_sound (x := kx333_x) (tb := t_X3_shiftedMark) (an := kx333_a) (sp := kx333_s) (rk := 0) 21 h (fun _ _ _ _ => trivial) (ht_tys cy) (by decide) rfl ⟨fx_an, (fx_ac fl_X3_40 (fx_an)), fx_an, fx_an, fx_an, (fx_ac (ev_V (kx118 h) (by decide) rfl ⟨by decide, by decide⟩ iV_X1_at g_X3_73) (fx_ac (ev_V (kx128 h) (by decide) rfl ⟨by decide, by decide⟩ iV_X10_worthOf g_X3_76) (fx_an)))⟩ d_X3_shiftedMark kx333_k
-- X3_isFirstPlace 64 i i
def kx334_c : fx_C := ([.inr (.inr 65), .inl (0, 8), .inl (0, 8)], [], [(some (.inl (1, 1)), [.inr (.inr 65), .inl (0, 8), .inl (0, 8)], []), (some (.inl (0, 0)), [.inr (.inr 65), .inl (1, 8), .inl (0, 8)], [((0, 1), .inl (1, 8))])], [])
def kx334_a : List fx_N := []
def kx334_s : List fx_D := []
def kx334_x : fx_X := ([], [], [], [], [], [(8, 73, 1, kx118_c)])
set_option maxRecDepth 100000 in
theorem kx334_k : fx_chk TX 3 kx334_c 3 kx334_x t_X3_isFirstPlace kx334_a kx334_s 14 = true := by decide +kernel
set_option maxRecDepth 100000 in
theorem kx334 {l : Launch} {E : (Nat → Prop) → State → Prop} {ad : List Nat} {D : va_G} {gs : List Nat} {cy : Nat → ClassId} (h : fx_env E D classes (tys cy) nestW) : fx_Met l yX3_isFirstPlace (.code yX3_isFirstPlace cX3_isFirstPlace 3 (some .boolean) :: wsL_law) ({ frames := 1, cells := 0, slots := 0, locals := 21 }) E (gs, TX, cy, fun _ => True) ad D classes kx334_c :=
  fx_sound (x := kx334_x) (tb := t_X3_isFirstPlace) (an := kx334_a) (sp := kx334_s) (rk := 3) 14 h (fun _ _ _ _ => trivial) (ht_tys cy) (by decide) rfl ⟨fx_an, fx_an, fx_an, fx_an, fx_an, (fx_ac (ev_V (kx118 h) (by decide) rfl ⟨by decide, by decide⟩ iV_X1_at g_X3_73) (fx_an))⟩ d_X3_isFirstPlace kx334_k
-- X3_fits 8 i i i i
def kx335_c : fx_C := ([.inr (.inr 9), .inl (-2147483648, 2147483647), .inl (0, 12), .inl (0, 8), .inl (-2147483648, 2147483647)], [], [(some (.inl (1, 1)), [.inr (.inr 9), .inl (-2147483648, 2147483647), .inl (0, 12), .inl (0, 8), .inl (-2147483648, 2147483647)], []), (some (.inl (0, 0)), [.inr (.inr 9), .inl (-2147483648, 2147483647), .inl (0, 12), .inl (0, 8), .inl (-2147483648, 2147483647)], [])], [])
def kx335_a : List fx_N := []
def kx335_s : List fx_D := []
def kx335_x : fx_X := ([], [], [], [], [], [(6, 76, 10, kx128_c)])
set_option maxRecDepth 100000 in
theorem kx335_k : fx_chk TX 5 kx335_c 3 kx335_x t_X3_fits kx335_a kx335_s 18 = true := by decide +kernel
set_option maxRecDepth 100000 in
theorem kx335 {l : Launch} {E : (Nat → Prop) → State → Prop} {ad : List Nat} {D : va_G} {gs : List Nat} {cy : Nat → ClassId} (h : fx_env E D classes (tys cy) nestW) : fx_Met l yX3_fits (.code yX3_fits cX3_fits 5 (some .boolean) :: wsL_law) ({ frames := 2, cells := 0, slots := 0, locals := 42 }) E (gs, TX, cy, fun _ => True) ad D classes kx335_c :=
  fx_sound (x := kx335_x) (tb := t_X3_fits) (an := kx335_a) (sp := kx335_s) (rk := 3) 18 h (fun _ _ _ _ => trivial) (ht_tys cy) (by decide) rfl ⟨fx_an, fx_an, fx_an, fx_an, fx_an, (fx_ac (ev_V (kx128 h) (by decide) rfl ⟨by decide, by decide⟩ iV_X10_worthOf g_X3_76) (fx_an))⟩ d_X3_fits kx335_k
-- X1_copy 11 64
def kx336_c : fx_C := ([.inr (.inr 12), .inr (.inr 65)], [], [(none, [.inr (.inr 12), .inr (.inr 65)], [])], [(1, 1), (1000, 14)])
def kx336_a : List fx_N := [(6, [(0, .inr (.inr 12)), (1, .inr (.inr 65)), (2, .inl (0, 8))], [], [(0, 0), (1, 2), (0, 0)], [(0, 0), (1, 1)])]
def kx336_s : List fx_D := []
def kx336_x : fx_X := ([], [(21, 1, 1)], [], [], [], [(1, 33, 1, kx4_c), (17, 36, 1, kx118_c), (20, 40, 1, kx101_c)])
set_option maxRecDepth 100000 in
theorem kx336_k : fx_chk TX 3 kx336_c 9 kx336_x t_X1_copy kx336_a kx336_s 14 = true := by decide +kernel
set_option maxRecDepth 100000 in
theorem kx336 {l : Launch} {E : (Nat → Prop) → State → Prop} {ad : List Nat} {D : va_G} {gs : List Nat} {cy : Nat → ClassId} (h : fx_env E D classes (tys cy) nestW) : fx_Met l yX1_copy (.code yX1_copy cX1_copy 3 none :: wsL_law) ({ frames := 2, cells := 0, slots := 0, locals := 41 }) E (gs, TX, cy, fun _ => True) ad D classes kx336_c :=
  fx_sound (x := kx336_x) (tb := t_X1_copy) (an := kx336_a) (sp := kx336_s) (rk := 9) 14 h (fun _ _ _ _ => trivial) (ht_tys cy) (by decide) rfl ⟨fx_an, (fx_ac fl_X1_21 (fx_an)), fx_an, fx_an, fx_an, (fx_ac (ev_V (kx4 h) (by decide) rfl ⟨by decide, by decide⟩ iV_X1_clear g_X1_33) (fx_ac (ev_V (kx118 h) (by decide) rfl ⟨by decide, by decide⟩ iV_X1_at g_X1_36) (fx_ac (ev_V (kx101 h) (by decide) rfl ⟨by decide, by decide⟩ iV_X1_add g_X1_40) (fx_an))))⟩ d_X1_copy kx336_k
-- X3_keepFirst 5
def kx337_c : fx_C := ([.inr (.inr 6)], [], [(none, [.inr (.inr 6)], [])], [(1, 1), (1000, 14)])
def kx337_a : List fx_N := [(24, [(0, .inr (.inr 6)), (1, .inl (0, 12))], [((0, 2), .inr (.inr 12)), ((2, 1), .inl (1, 12))], [(0, 0), (1, 1), (0, 0)], [(0, 0)])]
def kx337_s : List fx_D := []
def kx337_x : fx_X := ([], [(20, 3, 1), (23, 3, 2), (40, 1, 1)], [], [], [], [(18, 30, 1, kx113_c), (40, 73, 1, kx112_c), (48, 73, 1, kx112_c), (59, 73, 1, kx112_c), (67, 73, 1, kx112_c), (81, 30, 1, kx113_c)])
set_option maxRecDepth 100000 in
theorem kx337_k : fx_chk TX 2 kx337_c 9 kx337_x t_X3_keepFirst kx337_a kx337_s 31 = true := by decide +kernel
set_option maxRecDepth 100000 in
theorem kx337 {l : Launch} {E : (Nat → Prop) → State → Prop} {ad : List Nat} {D : va_G} {gs : List Nat} {cy : Nat → ClassId} (h : fx_env E D classes (tys cy) nestW) : fx_Met l yX3_keepFirst (.code yX3_keepFirst cX3_keepFirst 2 none :: wsL_law) ({ frames := 3, cells := 0, slots := 0, locals := 63 }) E (gs, TX, cy, fun _ => True) ad D classes kx337_c :=
  fx_sound (x := kx337_x) (tb := t_X3_keepFirst) (an := kx337_a) (sp := kx337_s) (rk := 9) 31 h (fun _ _ _ _ => trivial) (ht_tys cy) (by decide) rfl ⟨fx_an, (fx_ac fl_X3_20 (fx_ac fl_X3_23 (fx_ac fl_X3_40 (fx_an)))), fx_an, fx_an, fx_an, (fx_ac (ev_V (kx113 h) (by decide) rfl ⟨by decide, by decide⟩ iV_X1_copy g_X3_30) (fx_ac (ev_V (kx112 h) (by decide) rfl ⟨by decide, by decide⟩ iV_X1_at g_X3_73) (fx_ac (ev_V (kx112 h) (by decide) rfl ⟨by decide, by decide⟩ iV_X1_at g_X3_73) (fx_ac (ev_V (kx112 h) (by decide) rfl ⟨by decide, by decide⟩ iV_X1_at g_X3_73) (fx_ac (ev_V (kx112 h) (by decide) rfl ⟨by decide, by decide⟩ iV_X1_at g_X3_73) (fx_ac (ev_V (kx113 h) (by decide) rfl ⟨by decide, by decide⟩ iV_X1_copy g_X3_30) (fx_an)))))))⟩ d_X3_keepFirst kx337_k
-- X3_countMended 5 8 64 i
def kx338_c : fx_C := ([.inr (.inr 6), .inr (.inr 9), .inr (.inr 65), .inl (0, 99)], [], [(some (.inl (-2147483648, 2147483647)), [.inr (.inr 6), .inr (.inr 9), .inr (.inr 65), .inl (0, 99)], [])], [(1, 1), (1000, 14)])
def kx338_a : List fx_N := [(20, [(0, .inr (.inr 6)), (1, .inr (.inr 9)), (2, .inr (.inr 65)), (3, .inl (0, 99)), (4, .inl (-2147483648, 2147483647)), (5, .inl (-2147483648, 2147483647)), (6, .inl (0, 9))], [], [(0, 0), (1, 6), (0, 1), (0, 0), (0, 0)], [(0, 0), (1, 1), (2, 2), (3, 3)]), (32, [(0, .inr (.inr 6)), (1, .inr (.inr 9)), (2, .inr (.inr 65)), (3, .inl (0, 99)), (4, .inl (-2147483648, 2147483647)), (5, .inl (-2147483648, 2147483647)), (6, .inl (0, 8)), (7, .inl (0, 9))], [], [(0, 0), (1, 6), (0, 0), (1, 7), (0, 0)], [(0, 0), (1, 1), (2, 2), (3, 3)])]
def kx338_s : List fx_D := []
def kx338_x : fx_X := ([], [(20, 3, 1), (23, 3, 2), (40, 1, 1), (55, 10, 7)], [], [], [], [(7, 48, 1, kx4_c), (12, 51, 1000, kx333_c), (46, 58, 1000, kx334_c), (60, 62, 1000, kx335_c), (74, 30, 1, kx336_c), (85, 66, 1, kx159_c), (89, 70, 3, kx337_c), (104, 73, 1, kx118_c), (107, 76, 10, kx128_c)])
set_option maxRecDepth 100000 in
theorem kx338_k : fx_chk TX 8 kx338_c 0 kx338_x t_X3_countMended kx338_a kx338_s 33 = true := by decide +kernel
set_option maxRecDepth 100000 in
theorem kx338 {l : Launch} {E : (Nat → Prop) → State → Prop} {ad : List Nat} {D : va_G} {gs : List Nat} {cy : Nat → ClassId} (h : fx_env E D classes (tys cy) nestW) : fx_Met l yX3_countMended (.code yX3_countMended cX3_countMended 8 (some .int) :: wsL_law) ({ frames := 4, cells := 0, slots := 0, locals := 84 }) E (gs, TX, cy, fun _ => True) ad D classes kx338_c :=
  fx_sound (x := kx338_x) (tb := t_X3_countMended) (an := kx338_a) (sp := kx338_s) (rk := 0) 33 h (fun _ _ _ _ => trivial) (ht_tys cy) (by decide) rfl ⟨fx_an, (fx_ac fl_X3_20 (fx_ac fl_X3_23 (fx_ac fl_X3_40 (fx_ac fl_X3_55 (fx_an))))), fx_an, fx_an, fx_an, (fx_ac (ev_V (kx4 h) (by decide) rfl ⟨by decide, by decide⟩ iV_X1_clear g_X3_48) (fx_ac (ev_S (kx333 h) ⟨by decide, by decide⟩ iS_X3_shiftedMark g_X3_51) (fx_ac (ev_S (kx334 h) ⟨by decide, by decide⟩ iS_X3_isFirstPlace g_X3_58) (fx_ac (ev_S (kx335 h) ⟨by decide, by decide⟩ iS_X3_fits g_X3_62) (fx_ac (ev_V (kx336 h) (by decide) rfl ⟨by decide, by decide⟩ iV_X1_copy g_X3_30) (fx_ac (ev_V (kx159 h) (by decide) rfl ⟨by decide, by decide⟩ iV_X1_insert g_X3_66) (fx_ac (ev_V (kx337 h) (by decide) rfl ⟨by decide, by decide⟩ iV_X3_keepFirst g_X3_70) (fx_ac (ev_V (kx118 h) (by decide) rfl ⟨by decide, by decide⟩ iV_X1_at g_X3_73) (fx_ac (ev_V (kx128 h) (by decide) rfl ⟨by decide, by decide⟩ iV_X10_worthOf g_X3_76) (fx_an))))))))))⟩ d_X3_countMended kx338_k
-- X1_copy 12 11
def kx339_c : fx_C := ([.inr (.inr 13), .inr (.inr 12)], [], [(none, [.inr (.inr 13), .inr (.inr 12)], [])], [(1, 1), (1000, 15)])
def kx339_a : List fx_N := [(6, [(0, .inr (.inr 13)), (1, .inr (.inr 12)), (2, .inl (0, 12))], [], [(0, 0), (1, 2), (0, 0)], [(0, 0), (1, 1)])]
def kx339_s : List fx_D := []
def kx339_x : fx_X := ([], [(21, 1, 1)], [], [], [], [(1, 33, 1, kx111_c), (17, 36, 1, kx112_c), (20, 40, 1, kx189_c)])
set_option maxRecDepth 100000 in
theorem kx339_k : fx_chk TX 3 kx339_c 9 kx339_x t_X1_copy kx339_a kx339_s 14 = true := by decide +kernel
set_option maxRecDepth 100000 in
theorem kx339 {l : Launch} {E : (Nat → Prop) → State → Prop} {ad : List Nat} {D : va_G} {gs : List Nat} {cy : Nat → ClassId} (h : fx_env E D classes (tys cy) nestW) : fx_Met l yX1_copy (.code yX1_copy cX1_copy 3 none :: wsL_law) ({ frames := 2, cells := 0, slots := 0, locals := 41 }) E (gs, TX, cy, fun _ => True) ad D classes kx339_c :=
  fx_sound (x := kx339_x) (tb := t_X1_copy) (an := kx339_a) (sp := kx339_s) (rk := 9) 14 h (fun _ _ _ _ => trivial) (ht_tys cy) (by decide) rfl ⟨fx_an, (fx_ac fl_X1_21 (fx_an)), fx_an, fx_an, fx_an, (fx_ac (ev_V (kx111 h) (by decide) rfl ⟨by decide, by decide⟩ iV_X1_clear g_X1_33) (fx_ac (ev_V (kx112 h) (by decide) rfl ⟨by decide, by decide⟩ iV_X1_at g_X1_36) (fx_ac (ev_V (kx189 h) (by decide) rfl ⟨by decide, by decide⟩ iV_X1_add g_X1_40) (fx_an))))⟩ d_X1_copy kx339_k
-- X3_layMended 5 8 64 i 12
def kx340_c : fx_C := ([.inr (.inr 6), .inr (.inr 9), .inr (.inr 65), .inl (0, 99), .inr (.inr 13)], [], [(some (.inl (-2147483648, 2147483647)), [.inr (.inr 6), .inr (.inr 9), .inr (.inr 65), .inl (0, 99), .inr (.inr 13)], [])], [(1, 1), (1000, 14), (1000, 15)])
def kx340_a : List fx_N := []
def kx340_s : List fx_D := []
def kx340_x : fx_X := ([], [(23, 3, 2)], [], [], [], [(4, 26, 3, kx338_c), (15, 30, 1, kx339_c)])
set_option maxRecDepth 100000 in
theorem kx340_k : fx_chk TX 6 kx340_c 0 kx340_x t_X3_layMended kx340_a kx340_s 14 = true := by decide +kernel
set_option maxRecDepth 100000 in
theorem kx340 {l : Launch} {E : (Nat → Prop) → State → Prop} {ad : List Nat} {D : va_G} {gs : List Nat} {cy : Nat → ClassId} (h : fx_env E D classes (tys cy) nestW) : fx_Met l yX3_layMended (.code yX3_layMended cX3_layMended 6 (some .int) :: wsL_law) ({ frames := 5, cells := 0, slots := 0, locals := 111 }) E (gs, TX, cy, fun _ => True) ad D classes kx340_c :=
  fx_sound (x := kx340_x) (tb := t_X3_layMended) (an := kx340_a) (sp := kx340_s) (rk := 0) 14 h (fun _ _ _ _ => trivial) (ht_tys cy) (by decide) rfl ⟨fx_an, (fx_ac fl_X3_23 (fx_an)), fx_an, fx_an, fx_an, (fx_ac (ev_V (kx338 h) (by decide) rfl ⟨by decide, by decide⟩ iV_X3_countMended g_X3_26) (fx_ac (ev_V (kx339 h) (by decide) rfl ⟨by decide, by decide⟩ iV_X1_copy g_X3_30) (fx_an)))⟩ d_X3_layMended kx340_k
-- X11_mended 0 i i
def kx341_c : fx_C := ([.inr (.inr 1), .inl (-2147483648, 2147483647), .inl (-2147483648, 2147483647)], [], [(some (.inl (-1, -1)), [.inr (.inr 1), .inl (-2147483648, 2147483647), .inl (-2147483648, 2147483647)], [((0, 6), .inr (.inr 13)), ((3, 1), .inl (0, 0))]), (some (.inl (-2147483648, 2147483647)), [.inr (.inr 1), .inl (0, 4), .inl (0, 99)], [((0, 8), .inr (.inr 9)), ((3, 9), .inl (1, 5))])], [(1, 1), (1000, 14), (1000, 15)])
def kx341_a : List fx_N := []
def kx341_s : List fx_D := []
def kx341_x : fx_X := ([], [(40, 11, 4), (56, 11, 6), (66, 11, 8)], [], [], [], [(4, 95, 1, kx111_c), (9, 127, 11, kx124_c), (43, 252, 3, kx340_c)])
set_option maxRecDepth 100000 in
theorem kx341_k : fx_chk TX 4 kx341_c 0 kx341_x t_X11_mended kx341_a kx341_s 26 = true := by decide +kernel
set_option maxRecDepth 100000 in
theorem kx341 {l : Launch} {E : (Nat → Prop) → State → Prop} {ad : List Nat} {D : va_G} {gs : List Nat} {cy : Nat → ClassId} (h : fx_env E D classes (tys cy) nestW) : fx_Met l yX11_mended (.code yX11_mended cX11_mended 4 (some .int) :: wsL_law) ({ frames := 6, cells := 0, slots := 0, locals := 136 }) E (gs, TX, cy, fun _ => True) ad D classes kx341_c :=
  fx_sound (x := kx341_x) (tb := t_X11_mended) (an := kx341_a) (sp := kx341_s) (rk := 0) 26 h (fun _ _ _ _ => trivial) (ht_tys cy) (by decide) rfl ⟨fx_an, (fx_ac fl_X11_40 (fx_ac fl_X11_56 (fx_ac fl_X11_66 (fx_an)))), fx_an, fx_an, fx_an, (fx_ac (ev_V (kx111 h) (by decide) rfl ⟨by decide, by decide⟩ iV_X1_clear g_X11_95) (fx_ac (ev_V (kx124 h) (by decide) rfl ⟨by decide, by decide⟩ iV_X11_slipOf g_X11_127) (fx_ac (ev_V (kx340 h) (by decide) rfl ⟨by decide, by decide⟩ iV_X3_layMended g_X11_252) (fx_an))))⟩ d_X11_mended kx341_k
-- X3_shiftedMark 8 11
def kx342_c : fx_C := ([.inr (.inr 9), .inr (.inr 12)], [], [(some (.inl (-2147483648, 2147483647)), [.inr (.inr 9), .inr (.inr 12)], [])], [])
def kx342_a : List fx_N := [(4, [(0, .inr (.inr 9)), (1, .inr (.inr 12)), (2, .inl (-2147483648, 2147483647)), (3, .inl (0, 12))], [], [(0, 0), (1, 3), (0, 0)], [(0, 0), (1, 1)])]
def kx342_s : List fx_D := []
def kx342_x : fx_X := ([], [(40, 1, 1)], [], [], [], [(19, 73, 1, kx112_c), (22, 76, 10, kx128_c)])
set_option maxRecDepth 100000 in
theorem kx342_k : fx_chk TX 4 kx342_c 0 kx342_x t_X3_shiftedMark kx342_a kx342_s 21 = true := by decide +kernel
set_option maxRecDepth 100000 in
theorem kx342 {l : Launch} {E : (Nat → Prop) → State → Prop} {ad : List Nat} {D : va_G} {gs : List Nat} {cy : Nat → ClassId} (h : fx_env E D classes (tys cy) nestW) : fx_Met l yX3_shiftedMark (.code yX3_shiftedMark cX3_shiftedMark 4 (some .int) :: wsL_law) ({ frames := 2, cells := 0, slots := 0, locals := 42 }) E (gs, TX, cy, fun _ => True) ad D classes kx342_c :=
  fx_sound (x := kx342_x) (tb := t_X3_shiftedMark) (an := kx342_a) (sp := kx342_s) (rk := 0) 21 h (fun _ _ _ _ => trivial) (ht_tys cy) (by decide) rfl ⟨fx_an, (fx_ac fl_X3_40 (fx_an)), fx_an, fx_an, fx_an, (fx_ac (ev_V (kx112 h) (by decide) rfl ⟨by decide, by decide⟩ iV_X1_at g_X3_73) (fx_ac (ev_V (kx128 h) (by decide) rfl ⟨by decide, by decide⟩ iV_X10_worthOf g_X3_76) (fx_an)))⟩ d_X3_shiftedMark kx342_k
-- X3_isFirstPlace 11 i i
def kx343_c : fx_C := ([.inr (.inr 12), .inl (0, 12), .inl (0, 8)], [], [(some (.inl (1, 1)), [.inr (.inr 12), .inl (0, 12), .inl (0, 8)], []), (some (.inl (0, 0)), [.inr (.inr 12), .inl (1, 12), .inl (0, 8)], [((0, 1), .inl (1, 12))])], [])
def kx343_a : List fx_N := []
def kx343_s : List fx_D := []
def kx343_x : fx_X := ([], [], [], [], [], [(8, 73, 1, kx112_c)])
set_option maxRecDepth 100000 in
theorem kx343_k : fx_chk TX 3 kx343_c 3 kx343_x t_X3_isFirstPlace kx343_a kx343_s 14 = true := by decide +kernel
set_option maxRecDepth 100000 in
theorem kx343 {l : Launch} {E : (Nat → Prop) → State → Prop} {ad : List Nat} {D : va_G} {gs : List Nat} {cy : Nat → ClassId} (h : fx_env E D classes (tys cy) nestW) : fx_Met l yX3_isFirstPlace (.code yX3_isFirstPlace cX3_isFirstPlace 3 (some .boolean) :: wsL_law) ({ frames := 1, cells := 0, slots := 0, locals := 21 }) E (gs, TX, cy, fun _ => True) ad D classes kx343_c :=
  fx_sound (x := kx343_x) (tb := t_X3_isFirstPlace) (an := kx343_a) (sp := kx343_s) (rk := 3) 14 h (fun _ _ _ _ => trivial) (ht_tys cy) (by decide) rfl ⟨fx_an, fx_an, fx_an, fx_an, fx_an, (fx_ac (ev_V (kx112 h) (by decide) rfl ⟨by decide, by decide⟩ iV_X1_at g_X3_73) (fx_an))⟩ d_X3_isFirstPlace kx343_k
-- X3_countMended 5 8 11 i
def kx344_c : fx_C := ([.inr (.inr 6), .inr (.inr 9), .inr (.inr 12), .inl (-2147483648, 2147483647)], [], [(some (.inl (-2147483648, 2147483647)), [.inr (.inr 6), .inr (.inr 9), .inr (.inr 12), .inl (-2147483648, 2147483647)], [])], [(1, 1), (1000, 14)])
def kx344_a : List fx_N := [(20, [(0, .inr (.inr 6)), (1, .inr (.inr 9)), (2, .inr (.inr 12)), (3, .inl (-2147483648, 2147483647)), (4, .inl (-2147483648, 2147483647)), (5, .inl (-2147483648, 2147483647)), (6, .inl (0, 14))], [], [(0, 0), (1, 6), (0, 1), (0, 0), (0, 0)], [(0, 0), (1, 1), (2, 2), (3, 3)]), (32, [(0, .inr (.inr 6)), (1, .inr (.inr 9)), (2, .inr (.inr 12)), (3, .inl (-2147483648, 2147483647)), (4, .inl (-2147483648, 2147483647)), (5, .inl (-2147483648, 2147483647)), (6, .inl (0, 12)), (7, .inl (0, 9))], [], [(0, 0), (1, 6), (0, 0), (1, 7), (0, 0)], [(0, 0), (1, 1), (2, 2), (3, 3)])]
def kx344_s : List fx_D := []
def kx344_x : fx_X := ([], [(20, 3, 1), (23, 3, 2), (40, 1, 1), (55, 10, 7)], [], [], [], [(7, 48, 1, kx4_c), (12, 51, 1000, kx342_c), (46, 58, 1000, kx343_c), (60, 62, 1000, kx335_c), (74, 30, 1, kx113_c), (85, 66, 1, kx159_c), (89, 70, 3, kx337_c), (104, 73, 1, kx112_c), (107, 76, 10, kx128_c)])
set_option maxRecDepth 100000 in
theorem kx344_k : fx_chk TX 8 kx344_c 0 kx344_x t_X3_countMended kx344_a kx344_s 33 = true := by decide +kernel
set_option maxRecDepth 100000 in
theorem kx344 {l : Launch} {E : (Nat → Prop) → State → Prop} {ad : List Nat} {D : va_G} {gs : List Nat} {cy : Nat → ClassId} (h : fx_env E D classes (tys cy) nestW) : fx_Met l yX3_countMended (.code yX3_countMended cX3_countMended 8 (some .int) :: wsL_law) ({ frames := 4, cells := 0, slots := 0, locals := 84 }) E (gs, TX, cy, fun _ => True) ad D classes kx344_c :=
  fx_sound (x := kx344_x) (tb := t_X3_countMended) (an := kx344_a) (sp := kx344_s) (rk := 0) 33 h (fun _ _ _ _ => trivial) (ht_tys cy) (by decide) rfl ⟨fx_an, (fx_ac fl_X3_20 (fx_ac fl_X3_23 (fx_ac fl_X3_40 (fx_ac fl_X3_55 (fx_an))))), fx_an, fx_an, fx_an, (fx_ac (ev_V (kx4 h) (by decide) rfl ⟨by decide, by decide⟩ iV_X1_clear g_X3_48) (fx_ac (ev_S (kx342 h) ⟨by decide, by decide⟩ iS_X3_shiftedMark g_X3_51) (fx_ac (ev_S (kx343 h) ⟨by decide, by decide⟩ iS_X3_isFirstPlace g_X3_58) (fx_ac (ev_S (kx335 h) ⟨by decide, by decide⟩ iS_X3_fits g_X3_62) (fx_ac (ev_V (kx113 h) (by decide) rfl ⟨by decide, by decide⟩ iV_X1_copy g_X3_30) (fx_ac (ev_V (kx159 h) (by decide) rfl ⟨by decide, by decide⟩ iV_X1_insert g_X3_66) (fx_ac (ev_V (kx337 h) (by decide) rfl ⟨by decide, by decide⟩ iV_X3_keepFirst g_X3_70) (fx_ac (ev_V (kx112 h) (by decide) rfl ⟨by decide, by decide⟩ iV_X1_at g_X3_73) (fx_ac (ev_V (kx128 h) (by decide) rfl ⟨by decide, by decide⟩ iV_X10_worthOf g_X3_76) (fx_an))))))))))⟩ d_X3_countMended kx344_k
-- X3_safePlaces 5 8 11
def kx345_c : fx_C := ([.inr (.inr 6), .inr (.inr 9), .inr (.inr 12)], [], [(some (.inl (0, 4095)), [.inr (.inr 6), .inr (.inr 9), .inr (.inr 12)], [])], [(1, 1), (1000, 14)])
def kx345_a : List fx_N := [(12, [(0, .inr (.inr 6)), (1, .inr (.inr 9)), (2, .inr (.inr 12)), (3, .inl (-2147483648, 2147483647)), (4, .inl (0, 4095)), (5, .inl (0, 12))], [], [(0, 0), (1, 5), (0, 0)], [(0, 0), (1, 1), (2, 2)])]
def kx345_s : List fx_D := []
def kx345_x : fx_X := ([], [(14, 3, 0), (40, 1, 1)], [], [], [], [(2, 34, 10, kx331_c), (26, 30, 1, kx113_c), (35, 44, 1, kx151_c), (46, 26, 3, kx344_c)])
set_option maxRecDepth 100000 in
theorem kx345_k : fx_chk TX 6 kx345_c 0 kx345_x t_X3_safePlaces kx345_a kx345_s 32 = true := by decide +kernel
set_option maxRecDepth 100000 in
theorem kx345 {l : Launch} {E : (Nat → Prop) → State → Prop} {ad : List Nat} {D : va_G} {gs : List Nat} {cy : Nat → ClassId} (h : fx_env E D classes (tys cy) nestW) : fx_Met l yX3_safePlaces (.code yX3_safePlaces cX3_safePlaces 6 (some .int) :: wsL_law) ({ frames := 5, cells := 0, slots := 0, locals := 111 }) E (gs, TX, cy, fun _ => True) ad D classes kx345_c :=
  fx_sound (x := kx345_x) (tb := t_X3_safePlaces) (an := kx345_a) (sp := kx345_s) (rk := 0) 32 h (fun _ _ _ _ => trivial) (ht_tys cy) (by decide) rfl ⟨fx_an, (fx_ac fl_X3_14 (fx_ac fl_X3_40 (fx_an))), fx_an, fx_an, fx_an, (fx_ac (ev_V (kx331 h) (by decide) rfl ⟨by decide, by decide⟩ iV_X10_markOf g_X3_34) (fx_ac (ev_V (kx113 h) (by decide) rfl ⟨by decide, by decide⟩ iV_X1_copy g_X3_30) (fx_ac (ev_V (kx151 h) (by decide) rfl ⟨by decide, by decide⟩ iV_X1_drop g_X3_44) (fx_ac (ev_V (kx344 h) (by decide) rfl ⟨by decide, by decide⟩ iV_X3_countMended g_X3_26) (fx_an)))))⟩ d_X3_safePlaces kx345_k
-- X11_safe 0
def kx346_c : fx_C := ([.inr (.inr 1)], [], [(some (.inl (0, 4095)), [.inr (.inr 1)], [])], [(1, 1), (1000, 14)])
def kx346_a : List fx_N := []
def kx346_s : List fx_D := []
def kx346_x : fx_X := ([], [(19, 11, 1), (40, 11, 4), (66, 11, 8), (114, 5, 0), (118, 8, 0)], [], [], [], [(18, 256, 3, kx345_c)])
set_option maxRecDepth 100000 in
theorem kx346_k : fx_chk TX 1 kx346_c 0 kx346_x t_X11_safe kx346_a kx346_s 12 = true := by decide +kernel
set_option maxRecDepth 100000 in
theorem kx346 {l : Launch} {E : (Nat → Prop) → State → Prop} {ad : List Nat} {D : va_G} {gs : List Nat} {cy : Nat → ClassId} (h : fx_env E D classes (tys cy) nestW) : fx_Met l yX11_safe (.code yX11_safe cX11_safe 1 (some .int) :: wsL_law) ({ frames := 6, cells := 0, slots := 0, locals := 136 }) E (gs, TX, cy, fun _ => True) ad D classes kx346_c :=
  fx_sound (x := kx346_x) (tb := t_X11_safe) (an := kx346_a) (sp := kx346_s) (rk := 0) 12 h (fun _ _ _ _ => trivial) (ht_tys cy) (by decide) rfl ⟨fx_an, (fx_ac fl_X11_19 (fx_ac fl_X11_40 (fx_ac fl_X11_66 (fx_ac fl_X11_114 (fx_ac fl_X11_118 (fx_an)))))), fx_an, fx_an, fx_an, (fx_ac (ev_V (kx345 h) (by decide) rfl ⟨by decide, by decide⟩ iV_X3_safePlaces g_X11_256) (fx_an))⟩ d_X11_safe kx346_k
-- X1_clear 13
def kx347_c : fx_C := ([.inr (.inr 14)], [], [(none, [.inr (.inr 14)], [((0, 1), .inl (0, 0))])], [(1, 1)])
def kx347_a : List fx_N := []
def kx347_s : List fx_D := []
def kx347_x : fx_X := ([], [], [(21, 1, 1, 0)], [], [], [])
set_option maxRecDepth 100000 in
theorem kx347_k : fx_chk TX 1 kx347_c 9 kx347_x t_X1_clear kx347_a kx347_s 6 = true := by decide +kernel
set_option maxRecDepth 100000 in
theorem kx347 {l : Launch} {E : (Nat → Prop) → State → Prop} {ad : List Nat} {D : va_G} {gs : List Nat} {cy : Nat → ClassId} (h : fx_env E D classes (tys cy) nestW) : fx_Met l yX1_clear (.code yX1_clear cX1_clear 1 none :: wsL_law) ({ frames := 0, cells := 0, slots := 0, locals := 0 }) E (gs, TX, cy, fun _ => True) ad D classes kx347_c :=
  fx_sound (x := kx347_x) (tb := t_X1_clear) (an := kx347_a) (sp := kx347_s) (rk := 9) 6 h (fun _ _ _ _ => trivial) (ht_tys cy) (by decide) rfl ⟨fx_an, fx_an, (fx_ac pl_X1_21 (fx_an)), fx_an, fx_an, fx_an⟩ d_X1_clear kx347_k
-- J7_fill_53178 43 i
def kx348_c : fx_C := ([.inr (.inr 44), .inl (0, 0)], [], [(none, [.inr (.inr 44), .inl (0, 0)], [])], [(1000, 43)])
def kx348_a : List fx_N := [(5, [(0, .inr (.inr 44)), (1, .inl (0, 0)), (2, .inl (0, 25)), (3, .inl (25, 25))], [], [(0, 0), (1, 2), (0, 0)], [(0, 0), (1, 1)])]
def kx348_s : List fx_D := []
def kx348_x : fx_X := ([], [], [], [], [], [])
set_option maxRecDepth 100000 in
theorem kx348_k : fx_chk TX 4 kx348_c 9 kx348_x t_J7_fill_53178 kx348_a kx348_s 12 = true := by decide +kernel
set_option maxRecDepth 100000 in
theorem kx348 {l : Launch} {E : (Nat → Prop) → State → Prop} {ad : List Nat} {D : va_G} {gs : List Nat} {cy : Nat → ClassId} (h : fx_env E D classes (tys cy) nestW) : fx_Met l yJ7_fill_53178 (.code yJ7_fill_53178 cJ7_fill_53178 4 none :: wsL_law) ({ frames := 0, cells := 0, slots := 0, locals := 0 }) E (gs, TX, cy, fun _ => True) ad D classes kx348_c :=
  fx_sound (x := kx348_x) (tb := t_J7_fill_53178) (an := kx348_a) (sp := kx348_s) (rk := 9) 12 h (fun _ _ _ _ => trivial) (ht_tys cy) (by decide) rfl ⟨fx_an, fx_an, fx_an, fx_an, fx_an, fx_an⟩ d_J7_fill_53178 kx348_k
-- J7_fill_53178 41 i
def kx349_c : fx_C := ([.inr (.inr 42), .inl (0, 0)], [], [(none, [.inr (.inr 42), .inl (0, 0)], [])], [(1000, 41)])
def kx349_a : List fx_N := [(5, [(0, .inr (.inr 42)), (1, .inl (0, 0)), (2, .inl (0, 5)), (3, .inl (5, 5))], [], [(0, 0), (1, 2), (0, 0)], [(0, 0), (1, 1)])]
def kx349_s : List fx_D := []
def kx349_x : fx_X := ([], [], [], [], [], [])
set_option maxRecDepth 100000 in
theorem kx349_k : fx_chk TX 4 kx349_c 9 kx349_x t_J7_fill_53178 kx349_a kx349_s 12 = true := by decide +kernel
set_option maxRecDepth 100000 in
theorem kx349 {l : Launch} {E : (Nat → Prop) → State → Prop} {ad : List Nat} {D : va_G} {gs : List Nat} {cy : Nat → ClassId} (h : fx_env E D classes (tys cy) nestW) : fx_Met l yJ7_fill_53178 (.code yJ7_fill_53178 cJ7_fill_53178 4 none :: wsL_law) ({ frames := 0, cells := 0, slots := 0, locals := 0 }) E (gs, TX, cy, fun _ => True) ad D classes kx349_c :=
  fx_sound (x := kx349_x) (tb := t_J7_fill_53178) (an := kx349_a) (sp := kx349_s) (rk := 9) 12 h (fun _ _ _ _ => trivial) (ht_tys cy) (by decide) rfl ⟨fx_an, fx_an, fx_an, fx_an, fx_an, fx_an⟩ d_J7_fill_53178 kx349_k
-- X7_isKnown 6 i i
def kx350_c : fx_C := ([.inr (.inr 7), .inl (0, 29), .inl (-2147483648, 2147483647)], [], [(some (.inl (1, 1)), [.inr (.inr 7), .inl (0, 29), .inl (-2147483648, 2147483647)], []), (some (.inl (0, 0)), [.inr (.inr 7), .inl (0, 29), .inl (-2147483648, 2147483647)], [])], [])
def kx350_a : List fx_N := []
def kx350_s : List fx_D := []
def kx350_x : fx_X := ([], [(21, 7, 3), (24, 7, 4)], [], [], [], [])
set_option maxRecDepth 100000 in
theorem kx350_k : fx_chk TX 3 kx350_c 3 kx350_x t_X7_isKnown kx350_a kx350_s 23 = true := by decide +kernel
set_option maxRecDepth 100000 in
theorem kx350 {l : Launch} {E : (Nat → Prop) → State → Prop} {ad : List Nat} {D : va_G} {gs : List Nat} {cy : Nat → ClassId} (h : fx_env E D classes (tys cy) nestW) : fx_Met l yX7_isKnown (.code yX7_isKnown cX7_isKnown 3 (some .boolean) :: wsL_law) ({ frames := 0, cells := 0, slots := 0, locals := 0 }) E (gs, TX, cy, fun _ => True) ad D classes kx350_c :=
  fx_sound (x := kx350_x) (tb := t_X7_isKnown) (an := kx350_a) (sp := kx350_s) (rk := 3) 23 h (fun _ _ _ _ => trivial) (ht_tys cy) (by decide) rfl ⟨fx_an, (fx_ac fl_X7_21 (fx_ac fl_X7_24 (fx_an))), fx_an, fx_an, fx_an, fx_an⟩ d_X7_isKnown kx350_k
-- X1_hasRoom 13
def kx351_c : fx_C := ([.inr (.inr 14)], [], [(some (.inl (1, 1)), [.inr (.inr 14)], [((0, 1), .inl (0, 4))]), (some (.inl (0, 0)), [.inr (.inr 14)], [((0, 1), .inl (5, 5))])], [])
def kx351_a : List fx_N := []
def kx351_s : List fx_D := []
def kx351_x : fx_X := ([], [(15, 1, 0), (21, 1, 1)], [], [], [], [])
set_option maxRecDepth 100000 in
theorem kx351_k : fx_chk TX 1 kx351_c 3 kx351_x t_X1_hasRoom kx351_a kx351_s 14 = true := by decide +kernel
set_option maxRecDepth 100000 in
theorem kx351 {l : Launch} {E : (Nat → Prop) → State → Prop} {ad : List Nat} {D : va_G} {gs : List Nat} {cy : Nat → ClassId} (h : fx_env E D classes (tys cy) nestW) : fx_Met l yX1_hasRoom (.code yX1_hasRoom cX1_hasRoom 1 (some .boolean) :: wsL_law) ({ frames := 0, cells := 0, slots := 0, locals := 0 }) E (gs, TX, cy, fun _ => True) ad D classes kx351_c :=
  fx_sound (x := kx351_x) (tb := t_X1_hasRoom) (an := kx351_a) (sp := kx351_s) (rk := 3) 14 h (fun _ _ _ _ => trivial) (ht_tys cy) (by decide) rfl ⟨fx_an, (fx_ac fl_X1_15 (fx_ac fl_X1_21 (fx_an))), fx_an, fx_an, fx_an, fx_an⟩ d_X1_hasRoom kx351_k
-- X1_add 13 i
def kx352_c : fx_C := ([.inr (.inr 14), .inl (0, 4)], [], [(none, [.inr (.inr 14), .inl (0, 4)], [((0, 1), .inl (1, 5))])], [(1, 1), (1000, 16)])
def kx352_a : List fx_N := []
def kx352_s : List fx_D := []
def kx352_x : fx_X := ([], [(15, 1, 0), (21, 1, 1)], [(21, 1, 1, 0)], [], [], [(1, 25, 1, kx351_c)])
set_option maxRecDepth 100000 in
theorem kx352_k : fx_chk TX 2 kx352_c 9 kx352_x t_X1_add kx352_a kx352_s 18 = true := by decide +kernel
set_option maxRecDepth 100000 in
theorem kx352 {l : Launch} {E : (Nat → Prop) → State → Prop} {ad : List Nat} {D : va_G} {gs : List Nat} {cy : Nat → ClassId} (h : fx_env E D classes (tys cy) nestW) : fx_Met l yX1_add (.code yX1_add cX1_add 2 none :: wsL_law) ({ frames := 1, cells := 0, slots := 0, locals := 20 }) E (gs, TX, cy, fun _ => True) ad D classes kx352_c :=
  fx_sound (x := kx352_x) (tb := t_X1_add) (an := kx352_a) (sp := kx352_s) (rk := 9) 18 h (fun _ _ _ _ => trivial) (ht_tys cy) (by decide) rfl ⟨fx_an, (fx_ac fl_X1_15 (fx_ac fl_X1_21 (fx_an))), (fx_ac pl_X1_21 (fx_an)), fx_an, fx_an, (fx_ac (ev_V (kx351 h) (by decide) rfl ⟨by decide, by decide⟩ iV_X1_hasRoom g_X1_25) (fx_an))⟩ d_X1_add kx352_k
-- X7_noteOrder 6
def kx353_c : fx_C := ([.inr (.inr 7)], [], [(none, [.inr (.inr 7)], [])], [(1, 1), (7, 12), (1000, 16), (1000, 43)])
def kx353_a : List fx_N := [(2, [(0, .inr (.inr 7)), (1, .inl (0, 5))], [], [(0, 0), (1, 1), (0, 0)], [(0, 0)])]
def kx353_s : List fx_D := []
def kx353_x : fx_X := ([], [(30, 7, 6), (33, 7, 7), (41, 7, 8), (57, 7, 9), (79, 7, 12)], [(79, 7, 12, 0)], [], [], [(46, 118, 1, kx352_c)])
set_option maxRecDepth 100000 in
theorem kx353_k : fx_chk TX 2 kx353_c 9 kx353_x t_X7_noteOrder kx353_a kx353_s 34 = true := by decide +kernel
set_option maxRecDepth 100000 in
theorem kx353 {l : Launch} {E : (Nat → Prop) → State → Prop} {ad : List Nat} {D : va_G} {gs : List Nat} {cy : Nat → ClassId} (h : fx_env E D classes (tys cy) nestW) : fx_Met l yX7_noteOrder (.code yX7_noteOrder cX7_noteOrder 2 none :: wsL_law) ({ frames := 2, cells := 0, slots := 0, locals := 41 }) E (gs, TX, cy, fun _ => True) ad D classes kx353_c :=
  fx_sound (x := kx353_x) (tb := t_X7_noteOrder) (an := kx353_a) (sp := kx353_s) (rk := 9) 34 h (fun _ _ _ _ => trivial) (ht_tys cy) (by decide) rfl ⟨fx_an, (fx_ac fl_X7_30 (fx_ac fl_X7_33 (fx_ac fl_X7_41 (fx_ac fl_X7_57 (fx_ac fl_X7_79 (fx_an)))))), (fx_ac pl_X7_79 (fx_an)), fx_an, fx_an, (fx_ac (ev_V (kx352 h) (by decide) rfl ⟨by decide, by decide⟩ iV_X1_add g_X7_118) (fx_an))⟩ d_X7_noteOrder kx353_k
-- X7_comingFrom 6 i
def kx354_c : fx_C := ([.inr (.inr 7), .inl (0, 4)], [], [(some (.inl (-2147483648, 2147483647)), [.inr (.inr 7), .inl (0, 4)], [((0, 9), .inl (1, 5))]), (some (.inl (0, 0)), [.inr (.inr 7), .inl (0, 4)], [((0, 9), .inl (0, 4))])], [])
def kx354_a : List fx_N := []
def kx354_s : List fx_D := []
def kx354_x : fx_X := ([], [(9, 7, 0), (57, 7, 9)], [], [], [], [])
set_option maxRecDepth 100000 in
theorem kx354_k : fx_chk TX 2 kx354_c 0 kx354_x t_X7_comingFrom kx354_a kx354_s 14 = true := by decide +kernel
set_option maxRecDepth 100000 in
theorem kx354 {l : Launch} {E : (Nat → Prop) → State → Prop} {ad : List Nat} {D : va_G} {gs : List Nat} {cy : Nat → ClassId} (h : fx_env E D classes (tys cy) nestW) : fx_Met l yX7_comingFrom (.code yX7_comingFrom cX7_comingFrom 2 (some .int) :: wsL_law) ({ frames := 0, cells := 0, slots := 0, locals := 0 }) E (gs, TX, cy, fun _ => True) ad D classes kx354_c :=
  fx_sound (x := kx354_x) (tb := t_X7_comingFrom) (an := kx354_a) (sp := kx354_s) (rk := 0) 14 h (fun _ _ _ _ => trivial) (ht_tys cy) (by decide) rfl ⟨fx_an, (fx_ac fl_X7_9 (fx_ac fl_X7_57 (fx_an))), fx_an, fx_an, fx_an, fx_an⟩ d_X7_comingFrom kx354_k
-- X7_canSit 6 i i i
def kx355_c : fx_C := ([.inr (.inr 7), .inl (0, 4), .inl (0, 4), .inl (0, 4095)], [], [(some (.inl (0, 0)), [.inr (.inr 7), .inl (0, 4), .inl (0, 4), .inl (0, 4095)], []), (some (.inl (1, 1)), [.inr (.inr 7), .inl (0, 4), .inl (0, 4), .inl (0, 4095)], [])], [])
def kx355_a : List fx_N := []
def kx355_s : List fx_D := []
def kx355_x : fx_X := ([], [(27, 7, 5), (30, 7, 6)], [], [], [], [(36, 115, 7, kx354_c)])
set_option maxRecDepth 100000 in
theorem kx355_k : fx_chk TX 4 kx355_c 3 kx355_x t_X7_canSit kx355_a kx355_s 35 = true := by decide +kernel
set_option maxRecDepth 100000 in
theorem kx355 {l : Launch} {E : (Nat → Prop) → State → Prop} {ad : List Nat} {D : va_G} {gs : List Nat} {cy : Nat → ClassId} (h : fx_env E D classes (tys cy) nestW) : fx_Met l yX7_canSit (.code yX7_canSit cX7_canSit 4 (some .boolean) :: wsL_law) ({ frames := 1, cells := 0, slots := 0, locals := 21 }) E (gs, TX, cy, fun _ => True) ad D classes kx355_c :=
  fx_sound (x := kx355_x) (tb := t_X7_canSit) (an := kx355_a) (sp := kx355_s) (rk := 3) 35 h (fun _ _ _ _ => trivial) (ht_tys cy) (by decide) rfl ⟨fx_an, (fx_ac fl_X7_27 (fx_ac fl_X7_30 (fx_an))), fx_an, fx_an, fx_an, (fx_ac (ev_V (kx354 h) (by decide) rfl ⟨by decide, by decide⟩ iV_X7_comingFrom g_X7_115) (fx_an))⟩ d_X7_canSit kx355_k
-- X7_seatFrom 6 i i ('c', 5)
def kx356_c : fx_C := ([.inr (.inr 7), .inl (5, 5), .inl (0, 4095)], [], [(none, [.inr (.inr 7), .inl (5, 5), .inl (0, 4095)], [])], [(1, 1), (7, 12), (1000, 16), (1000, 43)])
def kx356_a : List fx_N := []
def kx356_s : List fx_D := []
def kx356_x : fx_X := ([], [(57, 7, 9)], [], [], [], [(18, 108, 7, kx353_c)])
set_option maxRecDepth 100000 in
theorem kx356_k : fx_chk TX 4 kx356_c 9 kx356_x t_X7_seatFrom kx356_a kx356_s 9 = true := by decide +kernel
set_option maxRecDepth 100000 in
theorem kx356 {l : Launch} {E : (Nat → Prop) → State → Prop} {ad : List Nat} {D : va_G} {gs : List Nat} {cy : Nat → ClassId} (h : fx_env E D classes (tys cy) nestW) : fx_Met l yX7_seatFrom (.code yX7_seatFrom cX7_seatFrom 4 none :: wsL_law) ({ frames := 3, cells := 0, slots := 0, locals := 62 }) E (gs, TX, cy, fun _ => True) ad D classes kx356_c :=
  fx_sound (x := kx356_x) (tb := t_X7_seatFrom) (an := kx356_a) (sp := kx356_s) (rk := 9) 9 h (fun _ _ _ _ => trivial) (ht_tys cy) (by decide) rfl ⟨fx_an, (fx_ac fl_X7_57 (fx_an)), fx_an, fx_an, fx_an, (fx_ac (ev_V (kx353 h) (by decide) rfl ⟨by decide, by decide⟩ iV_X7_noteOrder g_X7_108) (fx_an))⟩ d_X7_seatFrom kx356_k
-- X7_seatFrom 6 i i ('c', 4)
def kx357_c : fx_C := ([.inr (.inr 7), .inl (4, 4), .inl (0, 4095)], [], [(none, [.inr (.inr 7), .inl (4, 4), .inl (0, 4095)], [])], [(1, 1), (7, 12), (1000, 16), (1000, 42), (1000, 43)])
def kx357_a : List fx_N := [(24, [(0, .inr (.inr 7)), (1, .inl (4, 4)), (2, .inl (0, 4095)), (3, .inl (0, 5))], [((0, 9), .inl (5, 5))], [(0, 0), (1, 3), (0, 0)], [(0, 0), (1, 1), (2, 2)])]
def kx357_s : List fx_D := []
def kx357_x : fx_X := ([], [(30, 7, 6), (57, 7, 9)], [], [], [], [(18, 108, 7, kx353_c), (36, 111, 7, kx355_c), (58, 95, 7, kx356_c)])
set_option maxRecDepth 100000 in
theorem kx357_k : fx_chk TX 4 kx357_c 9 kx357_x t_X7_seatFrom kx357_a kx357_s 30 = true := by decide +kernel
set_option maxRecDepth 100000 in
theorem kx357 {l : Launch} {E : (Nat → Prop) → State → Prop} {ad : List Nat} {D : va_G} {gs : List Nat} {cy : Nat → ClassId} (h : fx_env E D classes (tys cy) nestW) : fx_Met l yX7_seatFrom (.code yX7_seatFrom cX7_seatFrom 4 none :: wsL_law) ({ frames := 4, cells := 0, slots := 0, locals := 85 }) E (gs, TX, cy, fun _ => True) ad D classes kx357_c :=
  fx_sound (x := kx357_x) (tb := t_X7_seatFrom) (an := kx357_a) (sp := kx357_s) (rk := 9) 30 h (fun _ _ _ _ => trivial) (ht_tys cy) (by decide) rfl ⟨fx_an, (fx_ac fl_X7_30 (fx_ac fl_X7_57 (fx_an))), fx_an, fx_an, fx_an, (fx_ac (ev_V (kx353 h) (by decide) rfl ⟨by decide, by decide⟩ iV_X7_noteOrder g_X7_108) (fx_ac (ev_V (kx355 h) (by decide) rfl ⟨by decide, by decide⟩ iV_X7_canSit g_X7_111) (fx_ac (ev_V (kx356 h) (by decide) rfl ⟨by decide, by decide⟩ iV_X7_seatFrom g_X7_95) (fx_an))))⟩ d_X7_seatFrom kx357_k
-- X7_seatFrom 6 i i ('c', 3)
def kx358_c : fx_C := ([.inr (.inr 7), .inl (3, 3), .inl (0, 4095)], [], [(none, [.inr (.inr 7), .inl (3, 3), .inl (0, 4095)], [])], [(1, 1), (7, 12), (1000, 16), (1000, 42), (1000, 43)])
def kx358_a : List fx_N := [(24, [(0, .inr (.inr 7)), (1, .inl (3, 3)), (2, .inl (0, 4095)), (3, .inl (0, 5))], [((0, 9), .inl (4, 5))], [(0, 0), (1, 3), (0, 0)], [(0, 0), (1, 1), (2, 2)])]
def kx358_s : List fx_D := []
def kx358_x : fx_X := ([], [(30, 7, 6), (57, 7, 9)], [], [], [], [(18, 108, 7, kx353_c), (36, 111, 7, kx355_c), (58, 95, 7, kx357_c)])
set_option maxRecDepth 100000 in
theorem kx358_k : fx_chk TX 4 kx358_c 9 kx358_x t_X7_seatFrom kx358_a kx358_s 30 = true := by decide +kernel
set_option maxRecDepth 100000 in
theorem kx358 {l : Launch} {E : (Nat → Prop) → State → Prop} {ad : List Nat} {D : va_G} {gs : List Nat} {cy : Nat → ClassId} (h : fx_env E D classes (tys cy) nestW) : fx_Met l yX7_seatFrom (.code yX7_seatFrom cX7_seatFrom 4 none :: wsL_law) ({ frames := 5, cells := 0, slots := 0, locals := 108 }) E (gs, TX, cy, fun _ => True) ad D classes kx358_c :=
  fx_sound (x := kx358_x) (tb := t_X7_seatFrom) (an := kx358_a) (sp := kx358_s) (rk := 9) 30 h (fun _ _ _ _ => trivial) (ht_tys cy) (by decide) rfl ⟨fx_an, (fx_ac fl_X7_30 (fx_ac fl_X7_57 (fx_an))), fx_an, fx_an, fx_an, (fx_ac (ev_V (kx353 h) (by decide) rfl ⟨by decide, by decide⟩ iV_X7_noteOrder g_X7_108) (fx_ac (ev_V (kx355 h) (by decide) rfl ⟨by decide, by decide⟩ iV_X7_canSit g_X7_111) (fx_ac (ev_V (kx357 h) (by decide) rfl ⟨by decide, by decide⟩ iV_X7_seatFrom g_X7_95) (fx_an))))⟩ d_X7_seatFrom kx358_k
-- X7_seatFrom 6 i i ('c', 2)
def kx359_c : fx_C := ([.inr (.inr 7), .inl (2, 2), .inl (0, 4095)], [], [(none, [.inr (.inr 7), .inl (2, 2), .inl (0, 4095)], [])], [(1, 1), (7, 12), (1000, 16), (1000, 42), (1000, 43)])
def kx359_a : List fx_N := [(24, [(0, .inr (.inr 7)), (1, .inl (2, 2)), (2, .inl (0, 4095)), (3, .inl (0, 5))], [((0, 9), .inl (3, 5))], [(0, 0), (1, 3), (0, 0)], [(0, 0), (1, 1), (2, 2)])]
def kx359_s : List fx_D := []
def kx359_x : fx_X := ([], [(30, 7, 6), (57, 7, 9)], [], [], [], [(18, 108, 7, kx353_c), (36, 111, 7, kx355_c), (58, 95, 7, kx358_c)])
set_option maxRecDepth 100000 in
theorem kx359_k : fx_chk TX 4 kx359_c 9 kx359_x t_X7_seatFrom kx359_a kx359_s 30 = true := by decide +kernel
set_option maxRecDepth 100000 in
theorem kx359 {l : Launch} {E : (Nat → Prop) → State → Prop} {ad : List Nat} {D : va_G} {gs : List Nat} {cy : Nat → ClassId} (h : fx_env E D classes (tys cy) nestW) : fx_Met l yX7_seatFrom (.code yX7_seatFrom cX7_seatFrom 4 none :: wsL_law) ({ frames := 6, cells := 0, slots := 0, locals := 131 }) E (gs, TX, cy, fun _ => True) ad D classes kx359_c :=
  fx_sound (x := kx359_x) (tb := t_X7_seatFrom) (an := kx359_a) (sp := kx359_s) (rk := 9) 30 h (fun _ _ _ _ => trivial) (ht_tys cy) (by decide) rfl ⟨fx_an, (fx_ac fl_X7_30 (fx_ac fl_X7_57 (fx_an))), fx_an, fx_an, fx_an, (fx_ac (ev_V (kx353 h) (by decide) rfl ⟨by decide, by decide⟩ iV_X7_noteOrder g_X7_108) (fx_ac (ev_V (kx355 h) (by decide) rfl ⟨by decide, by decide⟩ iV_X7_canSit g_X7_111) (fx_ac (ev_V (kx358 h) (by decide) rfl ⟨by decide, by decide⟩ iV_X7_seatFrom g_X7_95) (fx_an))))⟩ d_X7_seatFrom kx359_k
-- X7_seatFrom 6 i i ('c', 1)
def kx360_c : fx_C := ([.inr (.inr 7), .inl (1, 1), .inl (0, 4095)], [], [(none, [.inr (.inr 7), .inl (1, 1), .inl (0, 4095)], [])], [(1, 1), (7, 12), (1000, 16), (1000, 42), (1000, 43)])
def kx360_a : List fx_N := [(24, [(0, .inr (.inr 7)), (1, .inl (1, 1)), (2, .inl (0, 4095)), (3, .inl (0, 5))], [((0, 9), .inl (2, 5))], [(0, 0), (1, 3), (0, 0)], [(0, 0), (1, 1), (2, 2)])]
def kx360_s : List fx_D := []
def kx360_x : fx_X := ([], [(30, 7, 6), (57, 7, 9)], [], [], [], [(18, 108, 7, kx353_c), (36, 111, 7, kx355_c), (58, 95, 7, kx359_c)])
set_option maxRecDepth 100000 in
theorem kx360_k : fx_chk TX 4 kx360_c 9 kx360_x t_X7_seatFrom kx360_a kx360_s 30 = true := by decide +kernel
set_option maxRecDepth 100000 in
theorem kx360 {l : Launch} {E : (Nat → Prop) → State → Prop} {ad : List Nat} {D : va_G} {gs : List Nat} {cy : Nat → ClassId} (h : fx_env E D classes (tys cy) nestW) : fx_Met l yX7_seatFrom (.code yX7_seatFrom cX7_seatFrom 4 none :: wsL_law) ({ frames := 7, cells := 0, slots := 0, locals := 154 }) E (gs, TX, cy, fun _ => True) ad D classes kx360_c :=
  fx_sound (x := kx360_x) (tb := t_X7_seatFrom) (an := kx360_a) (sp := kx360_s) (rk := 9) 30 h (fun _ _ _ _ => trivial) (ht_tys cy) (by decide) rfl ⟨fx_an, (fx_ac fl_X7_30 (fx_ac fl_X7_57 (fx_an))), fx_an, fx_an, fx_an, (fx_ac (ev_V (kx353 h) (by decide) rfl ⟨by decide, by decide⟩ iV_X7_noteOrder g_X7_108) (fx_ac (ev_V (kx355 h) (by decide) rfl ⟨by decide, by decide⟩ iV_X7_canSit g_X7_111) (fx_ac (ev_V (kx359 h) (by decide) rfl ⟨by decide, by decide⟩ iV_X7_seatFrom g_X7_95) (fx_an))))⟩ d_X7_seatFrom kx360_k
-- X7_seatFrom 6 i i ('c', 0)
def kx361_c : fx_C := ([.inr (.inr 7), .inl (0, 0), .inl (0, 0)], [], [(none, [.inr (.inr 7), .inl (0, 0), .inl (0, 0)], [])], [(1, 1), (7, 12), (1000, 16), (1000, 42), (1000, 43)])
def kx361_a : List fx_N := [(24, [(0, .inr (.inr 7)), (1, .inl (0, 0)), (2, .inl (0, 0)), (3, .inl (0, 5))], [((0, 9), .inl (1, 5))], [(0, 0), (1, 3), (0, 0)], [(0, 0), (1, 1), (2, 2)])]
def kx361_s : List fx_D := []
def kx361_x : fx_X := ([], [(30, 7, 6), (57, 7, 9)], [], [], [], [(18, 108, 7, kx353_c), (36, 111, 7, kx355_c), (58, 95, 7, kx360_c)])
set_option maxRecDepth 100000 in
theorem kx361_k : fx_chk TX 4 kx361_c 9 kx361_x t_X7_seatFrom kx361_a kx361_s 30 = true := by decide +kernel
set_option maxRecDepth 100000 in
theorem kx361 {l : Launch} {E : (Nat → Prop) → State → Prop} {ad : List Nat} {D : va_G} {gs : List Nat} {cy : Nat → ClassId} (h : fx_env E D classes (tys cy) nestW) : fx_Met l yX7_seatFrom (.code yX7_seatFrom cX7_seatFrom 4 none :: wsL_law) ({ frames := 8, cells := 0, slots := 0, locals := 177 }) E (gs, TX, cy, fun _ => True) ad D classes kx361_c :=
  fx_sound (x := kx361_x) (tb := t_X7_seatFrom) (an := kx361_a) (sp := kx361_s) (rk := 9) 30 h (fun _ _ _ _ => trivial) (ht_tys cy) (by decide) rfl ⟨fx_an, (fx_ac fl_X7_30 (fx_ac fl_X7_57 (fx_an))), fx_an, fx_an, fx_an, (fx_ac (ev_V (kx353 h) (by decide) rfl ⟨by decide, by decide⟩ iV_X7_noteOrder g_X7_108) (fx_ac (ev_V (kx355 h) (by decide) rfl ⟨by decide, by decide⟩ iV_X7_canSit g_X7_111) (fx_ac (ev_V (kx360 h) (by decide) rfl ⟨by decide, by decide⟩ iV_X7_seatFrom g_X7_95) (fx_an))))⟩ d_X7_seatFrom kx361_k
-- X7_countKnown 6 i
def kx362_c : fx_C := ([.inr (.inr 7), .inl (-2147483648, 2147483647)], [], [(some (.inl (-2147483648, 2147483647)), [.inr (.inr 7), .inl (-2147483648, 2147483647)], [])], [(1, 1), (7, 12), (1000, 16), (1000, 41), (1000, 42), (1000, 43)])
def kx362_a : List fx_N := [(30, [(0, .inr (.inr 7)), (1, .inl (-2147483648, 2147483647)), (2, .inl (0, 30))], [((0, 12), .inl (0, 0)), ((0, 8), .inr (.inr 14)), ((4, 1), .inl (0, 0))], [(0, 0), (1, 2), (0, 0)], [(0, 0), (1, 1)])]
def kx362_s : List fx_D := []
def kx362_x : fx_X := ([], [(15, 7, 1), (18, 7, 2), (27, 7, 5), (33, 7, 7), (41, 7, 8), (58, 7, 10), (79, 7, 12)], [(79, 7, 12, 0)], [], [], [(9, 82, 1, kx347_c), (17, 85, 1000, kx348_c), (25, 85, 1000, kx349_c), (54, 91, 7, kx350_c), (99, 95, 7, kx361_c)])
set_option maxRecDepth 100000 in
theorem kx362_k : fx_chk TX 4 kx362_c 0 kx362_x t_X7_countKnown kx362_a kx362_s 42 = true := by decide +kernel
set_option maxRecDepth 100000 in
theorem kx362 {l : Launch} {E : (Nat → Prop) → State → Prop} {ad : List Nat} {D : va_G} {gs : List Nat} {cy : Nat → ClassId} (h : fx_env E D classes (tys cy) nestW) : fx_Met l yX7_countKnown (.code yX7_countKnown cX7_countKnown 4 (some .int) :: wsL_law) ({ frames := 9, cells := 0, slots := 0, locals := 200 }) E (gs, TX, cy, fun _ => True) ad D classes kx362_c :=
  fx_sound (x := kx362_x) (tb := t_X7_countKnown) (an := kx362_a) (sp := kx362_s) (rk := 0) 42 h (fun _ _ _ _ => trivial) (ht_tys cy) (by decide) rfl ⟨fx_an, (fx_ac fl_X7_15 (fx_ac fl_X7_18 (fx_ac fl_X7_27 (fx_ac fl_X7_33 (fx_ac fl_X7_41 (fx_ac fl_X7_58 (fx_ac fl_X7_79 (fx_an)))))))), (fx_ac pl_X7_79 (fx_an)), fx_an, fx_an, (fx_ac (ev_V (kx347 h) (by decide) rfl ⟨by decide, by decide⟩ iV_X1_clear g_X7_82) (fx_ac (ev_S (kx348 h) ⟨by decide, by decide⟩ iS_J7_fill_53178 g_X7_85) (fx_ac (ev_S (kx349 h) ⟨by decide, by decide⟩ iS_J7_fill_53178 g_X7_85) (fx_ac (ev_V (kx350 h) (by decide) rfl ⟨by decide, by decide⟩ iV_X7_isKnown g_X7_91) (fx_ac (ev_V (kx361 h) (by decide) rfl ⟨by decide, by decide⟩ iV_X7_seatFrom g_X7_95) (fx_an))))))⟩ d_X7_countKnown kx362_k
-- X7_countUnhinted 6
def kx363_c : fx_C := ([.inr (.inr 7)], [], [(some (.inl (-2147483648, 2147483647)), [.inr (.inr 7)], [])], [(1, 1), (7, 12), (1000, 16), (1000, 41), (1000, 42), (1000, 43)])
def kx363_a : List fx_N := []
def kx363_s : List fx_D := []
def kx363_x : fx_X := ([], [], [], [], [], [(2, 75, 7, kx362_c)])
set_option maxRecDepth 100000 in
theorem kx363_k : fx_chk TX 1 kx363_c 0 kx363_x t_X7_countUnhinted kx363_a kx363_s 6 = true := by decide +kernel
set_option maxRecDepth 100000 in
theorem kx363 {l : Launch} {E : (Nat → Prop) → State → Prop} {ad : List Nat} {D : va_G} {gs : List Nat} {cy : Nat → ClassId} (h : fx_env E D classes (tys cy) nestW) : fx_Met l yX7_countUnhinted (.code yX7_countUnhinted cX7_countUnhinted 1 (some .int) :: wsL_law) ({ frames := 10, cells := 0, slots := 0, locals := 223 }) E (gs, TX, cy, fun _ => True) ad D classes kx363_c :=
  fx_sound (x := kx363_x) (tb := t_X7_countUnhinted) (an := kx363_a) (sp := kx363_s) (rk := 0) 6 h (fun _ _ _ _ => trivial) (ht_tys cy) (by decide) rfl ⟨fx_an, fx_an, fx_an, fx_an, fx_an, (fx_ac (ev_V (kx362 h) (by decide) rfl ⟨by decide, by decide⟩ iV_X7_countKnown g_X7_75) (fx_an))⟩ d_X7_countUnhinted kx363_k
-- X1_at 13 i
def kx364_c : fx_C := ([.inr (.inr 14), .inl (0, 4)], [], [(some (.inl (-2147483648, 2147483647)), [.inr (.inr 14), .inl (0, 4)], [((0, 1), .inl (1, 5))]), (some (.inl (-1, -1)), [.inr (.inr 14), .inl (0, 4)], [((0, 1), .inl (0, 4))])], [])
def kx364_a : List fx_N := []
def kx364_s : List fx_D := []
def kx364_x : fx_X := ([], [(15, 1, 0), (21, 1, 1)], [], [], [], [])
set_option maxRecDepth 100000 in
theorem kx364_k : fx_chk TX 2 kx364_c 0 kx364_x t_X1_at kx364_a kx364_s 19 = true := by decide +kernel
set_option maxRecDepth 100000 in
theorem kx364 {l : Launch} {E : (Nat → Prop) → State → Prop} {ad : List Nat} {D : va_G} {gs : List Nat} {cy : Nat → ClassId} (h : fx_env E D classes (tys cy) nestW) : fx_Met l yX1_at (.code yX1_at cX1_at 2 (some .int) :: wsL_law) ({ frames := 0, cells := 0, slots := 0, locals := 0 }) E (gs, TX, cy, fun _ => True) ad D classes kx364_c :=
  fx_sound (x := kx364_x) (tb := t_X1_at) (an := kx364_a) (sp := kx364_s) (rk := 0) 19 h (fun _ _ _ _ => trivial) (ht_tys cy) (by decide) rfl ⟨fx_an, (fx_ac fl_X1_15 (fx_ac fl_X1_21 (fx_an))), fx_an, fx_an, fx_an, fx_an⟩ d_X1_at kx364_k
-- X1_copy 12 13
def kx365_c : fx_C := ([.inr (.inr 13), .inr (.inr 14)], [], [(none, [.inr (.inr 13), .inr (.inr 14)], [])], [(1, 1), (1000, 15)])
def kx365_a : List fx_N := [(6, [(0, .inr (.inr 13)), (1, .inr (.inr 14)), (2, .inl (0, 5))], [], [(0, 0), (1, 2), (0, 0)], [(0, 0), (1, 1)])]
def kx365_s : List fx_D := []
def kx365_x : fx_X := ([], [(21, 1, 1)], [], [], [], [(1, 33, 1, kx111_c), (17, 36, 1, kx364_c), (20, 40, 1, kx189_c)])
set_option maxRecDepth 100000 in
theorem kx365_k : fx_chk TX 3 kx365_c 9 kx365_x t_X1_copy kx365_a kx365_s 14 = true := by decide +kernel
set_option maxRecDepth 100000 in
theorem kx365 {l : Launch} {E : (Nat → Prop) → State → Prop} {ad : List Nat} {D : va_G} {gs : List Nat} {cy : Nat → ClassId} (h : fx_env E D classes (tys cy) nestW) : fx_Met l yX1_copy (.code yX1_copy cX1_copy 3 none :: wsL_law) ({ frames := 2, cells := 0, slots := 0, locals := 41 }) E (gs, TX, cy, fun _ => True) ad D classes kx365_c :=
  fx_sound (x := kx365_x) (tb := t_X1_copy) (an := kx365_a) (sp := kx365_s) (rk := 9) 14 h (fun _ _ _ _ => trivial) (ht_tys cy) (by decide) rfl ⟨fx_an, (fx_ac fl_X1_21 (fx_an)), fx_an, fx_an, fx_an, (fx_ac (ev_V (kx111 h) (by decide) rfl ⟨by decide, by decide⟩ iV_X1_clear g_X1_33) (fx_ac (ev_V (kx364 h) (by decide) rfl ⟨by decide, by decide⟩ iV_X1_at g_X1_36) (fx_ac (ev_V (kx189 h) (by decide) rfl ⟨by decide, by decide⟩ iV_X1_add g_X1_40) (fx_an))))⟩ d_X1_copy kx365_k
-- X11_sittings 0
def kx366_c : fx_C := ([.inr (.inr 1)], [], [(some (.inl (-2147483648, 2147483647)), [.inr (.inr 1)], [])], [(1, 1), (7, 12), (1000, 15), (1000, 16), (1000, 41), (1000, 42), (1000, 43)])
def kx366_a : List fx_N := []
def kx366_s : List fx_D := []
def kx366_x : fx_X := ([], [(47, 11, 5), (56, 11, 6), (263, 7, 8)], [], [], [], [(4, 95, 1, kx111_c), (11, 260, 7, kx363_c), (30, 266, 1, kx365_c)])
set_option maxRecDepth 100000 in
theorem kx366_k : fx_chk TX 2 kx366_c 0 kx366_x t_X11_sittings kx366_a kx366_s 19 = true := by decide +kernel
set_option maxRecDepth 100000 in
theorem kx366 {l : Launch} {E : (Nat → Prop) → State → Prop} {ad : List Nat} {D : va_G} {gs : List Nat} {cy : Nat → ClassId} (h : fx_env E D classes (tys cy) nestW) : fx_Met l yX11_sittings (.code yX11_sittings cX11_sittings 2 (some .int) :: wsL_law) ({ frames := 11, cells := 0, slots := 0, locals := 243 }) E (gs, TX, cy, fun _ => True) ad D classes kx366_c :=
  fx_sound (x := kx366_x) (tb := t_X11_sittings) (an := kx366_a) (sp := kx366_s) (rk := 0) 19 h (fun _ _ _ _ => trivial) (ht_tys cy) (by decide) rfl ⟨fx_an, (fx_ac fl_X11_47 (fx_ac fl_X11_56 (fx_ac fl_X11_263 (fx_an)))), fx_an, fx_an, fx_an, (fx_ac (ev_V (kx111 h) (by decide) rfl ⟨by decide, by decide⟩ iV_X1_clear g_X11_95) (fx_ac (ev_V (kx363 h) (by decide) rfl ⟨by decide, by decide⟩ iV_X7_countUnhinted g_X11_260) (fx_ac (ev_V (kx365 h) (by decide) rfl ⟨by decide, by decide⟩ iV_X1_copy g_X11_266) (fx_an))))⟩ d_X11_sittings kx366_k
-- X11_comes 0 i
def kx367_c : fx_C := ([.inr (.inr 1), .inl (-2147483648, 2147483647)], [], [(some (.inl (0, 0)), [.inr (.inr 1), .inl (0, 4)], [((0, 5), .inr (.inr 7)), ((2, 9), .inl (0, 4)), ((0, 8), .inr (.inr 9)), ((4, 9), .inl (1, 5))]), (some (.inl (-2147483648, 2147483647)), [.inr (.inr 1), .inl (0, 4)], [((0, 5), .inr (.inr 7)), ((2, 9), .inl (1, 5)), ((0, 8), .inr (.inr 9)), ((4, 9), .inl (1, 5))]), (some (.inl (-1, -1)), [.inr (.inr 1), .inl (-2147483648, 2147483647)], [])], [])
def kx367_a : List fx_N := []
def kx367_s : List fx_D := []
def kx367_x : fx_X := ([], [(47, 11, 5)], [], [], [], [(2, 127, 11, kx124_c), (17, 270, 7, kx354_c)])
set_option maxRecDepth 100000 in
theorem kx367_k : fx_chk TX 2 kx367_c 0 kx367_x t_X11_comes kx367_a kx367_s 11 = true := by decide +kernel
set_option maxRecDepth 100000 in
theorem kx367 {l : Launch} {E : (Nat → Prop) → State → Prop} {ad : List Nat} {D : va_G} {gs : List Nat} {cy : Nat → ClassId} (h : fx_env E D classes (tys cy) nestW) : fx_Met l yX11_comes (.code yX11_comes cX11_comes 2 (some .int) :: wsL_law) ({ frames := 2, cells := 0, slots := 0, locals := 42 }) E (gs, TX, cy, fun _ => True) ad D classes kx367_c :=
  fx_sound (x := kx367_x) (tb := t_X11_comes) (an := kx367_a) (sp := kx367_s) (rk := 0) 11 h (fun _ _ _ _ => trivial) (ht_tys cy) (by decide) rfl ⟨fx_an, (fx_ac fl_X11_47 (fx_an)), fx_an, fx_an, fx_an, (fx_ac (ev_V (kx124 h) (by decide) rfl ⟨by decide, by decide⟩ iV_X11_slipOf g_X11_127) (fx_ac (ev_V (kx354 h) (by decide) rfl ⟨by decide, by decide⟩ iV_X7_comingFrom g_X11_270) (fx_an)))⟩ d_X11_comes kx367_k
-- X1_at 12 i
def kx368_c : fx_C := ([.inr (.inr 13), .inl (-2147483648, 2147483647)], [], [(some (.inl (-2147483648, 2147483647)), [.inr (.inr 13), .inl (0, 23)], [((0, 1), .inl (1, 24))]), (some (.inl (-1, -1)), [.inr (.inr 13), .inl (-2147483648, 2147483647)], [])], [])
def kx368_a : List fx_N := []
def kx368_s : List fx_D := []
def kx368_x : fx_X := ([], [(15, 1, 0), (21, 1, 1)], [], [], [], [])
set_option maxRecDepth 100000 in
theorem kx368_k : fx_chk TX 2 kx368_c 0 kx368_x t_X1_at kx368_a kx368_s 19 = true := by decide +kernel
set_option maxRecDepth 100000 in
theorem kx368 {l : Launch} {E : (Nat → Prop) → State → Prop} {ad : List Nat} {D : va_G} {gs : List Nat} {cy : Nat → ClassId} (h : fx_env E D classes (tys cy) nestW) : fx_Met l yX1_at (.code yX1_at cX1_at 2 (some .int) :: wsL_law) ({ frames := 0, cells := 0, slots := 0, locals := 0 }) E (gs, TX, cy, fun _ => True) ad D classes kx368_c :=
  fx_sound (x := kx368_x) (tb := t_X1_at) (an := kx368_a) (sp := kx368_s) (rk := 0) 19 h (fun _ _ _ _ => trivial) (ht_tys cy) (by decide) rfl ⟨fx_an, (fx_ac fl_X1_15 (fx_ac fl_X1_21 (fx_an))), fx_an, fx_an, fx_an, fx_an⟩ d_X1_at kx368_k
-- X11_lies 0 i
def kx369_c : fx_C := ([.inr (.inr 1), .inl (-2147483648, 2147483647)], [], [(some (.inl (-1, -1)), [.inr (.inr 1), .inl (-2147483648, 2147483647)], []), (some (.inl (-2147483648, 2147483647)), [.inr (.inr 1), .inl (0, 23)], [((0, 6), .inr (.inr 13)), ((2, 1), .inl (1, 24))])], [])
def kx369_a : List fx_N := []
def kx369_s : List fx_D := []
def kx369_x : fx_X := ([], [(56, 11, 6)], [], [], [], [(5, 123, 1, kx368_c)])
set_option maxRecDepth 100000 in
theorem kx369_k : fx_chk TX 2 kx369_c 0 kx369_x t_X11_lies kx369_a kx369_s 7 = true := by decide +kernel
set_option maxRecDepth 100000 in
theorem kx369 {l : Launch} {E : (Nat → Prop) → State → Prop} {ad : List Nat} {D : va_G} {gs : List Nat} {cy : Nat → ClassId} (h : fx_env E D classes (tys cy) nestW) : fx_Met l yX11_lies (.code yX11_lies cX11_lies 2 (some .int) :: wsL_law) ({ frames := 1, cells := 0, slots := 0, locals := 21 }) E (gs, TX, cy, fun _ => True) ad D classes kx369_c :=
  fx_sound (x := kx369_x) (tb := t_X11_lies) (an := kx369_a) (sp := kx369_s) (rk := 0) 7 h (fun _ _ _ _ => trivial) (ht_tys cy) (by decide) rfl ⟨fx_an, (fx_ac fl_X11_56 (fx_an)), fx_an, fx_an, fx_an, (fx_ac (ev_V (kx368 h) (by decide) rfl ⟨by decide, by decide⟩ iV_X1_at g_X11_123) (fx_an))⟩ d_X11_lies kx369_k
-- X7_tell 6 i i
def kx370_c : fx_C := ([.inr (.inr 7), .inl (0, 4), .inl (0, 4)], [], [(some (.inl (-1, -1)), [.inr (.inr 7), .inl (0, 4), .inl (0, 4)], [((0, 10), .inl (30, 30))]), (some (.inl (0, 29)), [.inr (.inr 7), .inl (0, 4), .inl (0, 4)], [((0, 10), .inl (1, 30))])], [(7, 10), (1000, 37), (1000, 38), (1000, 39), (1000, 40)])
def kx370_a : List fx_N := []
def kx370_s : List fx_D := []
def kx370_x : fx_X := ([], [(15, 7, 1), (18, 7, 2), (21, 7, 3), (24, 7, 4), (58, 7, 10), (71, 7, 11)], [(58, 7, 10, 0)], [], [], [])
set_option maxRecDepth 100000 in
theorem kx370_k : fx_chk TX 3 kx370_c 0 kx370_x t_X7_tell kx370_a kx370_s 42 = true := by decide +kernel
set_option maxRecDepth 100000 in
theorem kx370 {l : Launch} {E : (Nat → Prop) → State → Prop} {ad : List Nat} {D : va_G} {gs : List Nat} {cy : Nat → ClassId} (h : fx_env E D classes (tys cy) nestW) : fx_Met l yX7_tell (.code yX7_tell cX7_tell 3 (some .int) :: wsL_law) ({ frames := 0, cells := 0, slots := 0, locals := 0 }) E (gs, TX, cy, fun _ => True) ad D classes kx370_c :=
  fx_sound (x := kx370_x) (tb := t_X7_tell) (an := kx370_a) (sp := kx370_s) (rk := 0) 42 h (fun _ _ _ _ => trivial) (ht_tys cy) (by decide) rfl ⟨fx_an, (fx_ac fl_X7_15 (fx_ac fl_X7_18 (fx_ac fl_X7_21 (fx_ac fl_X7_24 (fx_ac fl_X7_58 (fx_ac fl_X7_71 (fx_an))))))), (fx_ac pl_X7_58 (fx_an)), fx_an, fx_an, fx_an⟩ d_X7_tell kx370_k
-- X11_hint 0 i i i
def kx371_c : fx_C := ([.inr (.inr 1), .inl (-2147483648, 2147483647), .inl (-2147483648, 2147483647), .inl (0, 1)], [], [(some (.inl (-1, -1)), [.inr (.inr 1), .inl (-2147483648, 2147483647), .inl (-2147483648, 2147483647), .inl (0, 1)], []), (some (.inl (0, 29)), [.inr (.inr 1), .inl (0, 4), .inl (0, 4), .inl (0, 1)], [((0, 5), .inr (.inr 7)), ((4, 10), .inl (1, 30)), ((0, 8), .inr (.inr 9)), ((6, 9), .inl (1, 5))])], [(7, 10), (1000, 37), (1000, 38), (1000, 39), (1000, 40)])
def kx371_a : List fx_N := []
def kx371_s : List fx_D := []
def kx371_x : fx_X := ([], [(47, 11, 5)], [], [], [], [(2, 127, 11, kx124_c), (10, 127, 11, kx124_c), (33, 273, 7, kx370_c), (45, 273, 7, kx370_c)])
set_option maxRecDepth 100000 in
theorem kx371_k : fx_chk TX 4 kx371_c 0 kx371_x t_X11_hint kx371_a kx371_s 22 = true := by decide +kernel
set_option maxRecDepth 100000 in
theorem kx371 {l : Launch} {E : (Nat → Prop) → State → Prop} {ad : List Nat} {D : va_G} {gs : List Nat} {cy : Nat → ClassId} (h : fx_env E D classes (tys cy) nestW) : fx_Met l yX11_hint (.code yX11_hint cX11_hint 4 (some .int) :: wsL_law) ({ frames := 2, cells := 0, slots := 0, locals := 42 }) E (gs, TX, cy, fun _ => True) ad D classes kx371_c :=
  fx_sound (x := kx371_x) (tb := t_X11_hint) (an := kx371_a) (sp := kx371_s) (rk := 0) 22 h (fun _ _ _ _ => trivial) (ht_tys cy) (by decide) rfl ⟨fx_an, (fx_ac fl_X11_47 (fx_an)), fx_an, fx_an, fx_an, (fx_ac (ev_V (kx124 h) (by decide) rfl ⟨by decide, by decide⟩ iV_X11_slipOf g_X11_127) (fx_ac (ev_V (kx124 h) (by decide) rfl ⟨by decide, by decide⟩ iV_X11_slipOf g_X11_127) (fx_ac (ev_V (kx370 h) (by decide) rfl ⟨by decide, by decide⟩ iV_X7_tell g_X11_273) (fx_ac (ev_V (kx370 h) (by decide) rfl ⟨by decide, by decide⟩ iV_X7_tell g_X11_273) (fx_an)))))⟩ d_X11_hint kx371_k
-- X7_untellNow 6 i
def kx372_c : fx_C := ([.inr (.inr 7), .inl (-2147483648, 2147483647)], [], [(some (.inl (0, 0)), [.inr (.inr 7), .inl (-2147483648, 2147483647)], []), (some (.inl (1, 1)), [.inr (.inr 7), .inl (0, 29)], [((0, 10), .inl (1, 30))])], [(1000, 40)])
def kx372_a : List fx_N := []
def kx372_s : List fx_D := []
def kx372_x : fx_X := ([], [(24, 7, 4), (58, 7, 10), (71, 7, 11)], [], [], [], [])
set_option maxRecDepth 100000 in
theorem kx372_k : fx_chk TX 2 kx372_c 3 kx372_x t_X7_untellNow kx372_a kx372_s 22 = true := by decide +kernel
set_option maxRecDepth 100000 in
theorem kx372 {l : Launch} {E : (Nat → Prop) → State → Prop} {ad : List Nat} {D : va_G} {gs : List Nat} {cy : Nat → ClassId} (h : fx_env E D classes (tys cy) nestW) : fx_Met l yX7_untellNow (.code yX7_untellNow cX7_untellNow 2 (some .boolean) :: wsL_law) ({ frames := 0, cells := 0, slots := 0, locals := 0 }) E (gs, TX, cy, fun _ => True) ad D classes kx372_c :=
  fx_sound (x := kx372_x) (tb := t_X7_untellNow) (an := kx372_a) (sp := kx372_s) (rk := 3) 22 h (fun _ _ _ _ => trivial) (ht_tys cy) (by decide) rfl ⟨fx_an, (fx_ac fl_X7_24 (fx_ac fl_X7_58 (fx_ac fl_X7_71 (fx_an)))), fx_an, fx_an, fx_an, fx_an⟩ d_X7_untellNow kx372_k
-- X11_untell 0 i
def kx373_c : fx_C := ([.inr (.inr 1), .inl (-2147483648, 2147483647)], [], [(some (.inl (1, 1)), [.inr (.inr 1), .inl (0, 29)], [((0, 5), .inr (.inr 7)), ((2, 10), .inl (1, 30))]), (some (.inl (0, 0)), [.inr (.inr 1), .inl (-2147483648, 2147483647)], [])], [(1000, 40)])
def kx373_a : List fx_N := []
def kx373_s : List fx_D := []
def kx373_x : fx_X := ([], [(47, 11, 5)], [], [], [], [(5, 276, 7, kx372_c)])
set_option maxRecDepth 100000 in
theorem kx373_k : fx_chk TX 2 kx373_c 3 kx373_x t_X11_untell kx373_a kx373_s 7 = true := by decide +kernel
set_option maxRecDepth 100000 in
theorem kx373 {l : Launch} {E : (Nat → Prop) → State → Prop} {ad : List Nat} {D : va_G} {gs : List Nat} {cy : Nat → ClassId} (h : fx_env E D classes (tys cy) nestW) : fx_Met l yX11_untell (.code yX11_untell cX11_untell 2 (some .boolean) :: wsL_law) ({ frames := 1, cells := 0, slots := 0, locals := 21 }) E (gs, TX, cy, fun _ => True) ad D classes kx373_c :=
  fx_sound (x := kx373_x) (tb := t_X11_untell) (an := kx373_a) (sp := kx373_s) (rk := 3) 7 h (fun _ _ _ _ => trivial) (ht_tys cy) (by decide) rfl ⟨fx_an, (fx_ac fl_X11_47 (fx_an)), fx_an, fx_an, fx_an, (fx_ac (ev_V (kx372 h) (by decide) rfl ⟨by decide, by decide⟩ iV_X7_untellNow g_X11_276) (fx_an))⟩ d_X11_untell kx373_k
-- X7_goOn 6 i
def kx374_c : fx_C := ([.inr (.inr 7), .inl (0, 1000)], [], [(some (.inl (-1, -1)), [.inr (.inr 7), .inl (0, 1000)], []), (some (.inl (-2147483648, 2147483647)), [.inr (.inr 7), .inl (0, 1000)], [])], [(7, 11)])
def kx374_a : List fx_N := []
def kx374_s : List fx_D := []
def kx374_x : fx_X := ([], [(71, 7, 11)], [(71, 7, 11, 0)], [(74, 100000)], [], [])
set_option maxRecDepth 100000 in
theorem kx374_k : fx_chk TX 2 kx374_c 0 kx374_x t_X7_goOn kx374_a kx374_s 17 = true := by decide +kernel
set_option maxRecDepth 100000 in
theorem kx374 {l : Launch} {E : (Nat → Prop) → State → Prop} {ad : List Nat} {D : va_G} {gs : List Nat} {cy : Nat → ClassId} (h : fx_env E D classes (tys cy) nestW) : fx_Met l yX7_goOn (.code yX7_goOn cX7_goOn 2 (some .int) :: wsL_law) ({ frames := 0, cells := 0, slots := 0, locals := 0 }) E (gs, TX, cy, fun _ => True) ad D classes kx374_c :=
  fx_sound (x := kx374_x) (tb := t_X7_goOn) (an := kx374_a) (sp := kx374_s) (rk := 0) 17 h (fun _ _ _ _ => trivial) (ht_tys cy) (by decide) rfl ⟨fx_an, (fx_ac fl_X7_71 (fx_an)), (fx_ac pl_X7_71 (fx_an)), (fx_ac kc_X7_74 (fx_an)), fx_an, fx_an⟩ d_X7_goOn kx374_k
-- X11_later 0 i
def kx375_c : fx_C := ([.inr (.inr 1), .inl (-2147483648, 2147483647)], [], [(some (.inl (-1, -1)), [.inr (.inr 1), .inl (-2147483648, 2147483647)], []), (some (.inl (-2147483648, 2147483647)), [.inr (.inr 1), .inl (0, 1000)], [])], [(7, 11)])
def kx375_a : List fx_N := []
def kx375_s : List fx_D := []
def kx375_x : fx_X := ([], [(47, 11, 5)], [], [], [], [(20, 279, 7, kx374_c)])
set_option maxRecDepth 100000 in
theorem kx375_k : fx_chk TX 2 kx375_c 0 kx375_x t_X11_later kx375_a kx375_s 12 = true := by decide +kernel
set_option maxRecDepth 100000 in
theorem kx375 {l : Launch} {E : (Nat → Prop) → State → Prop} {ad : List Nat} {D : va_G} {gs : List Nat} {cy : Nat → ClassId} (h : fx_env E D classes (tys cy) nestW) : fx_Met l yX11_later (.code yX11_later cX11_later 2 (some .int) :: wsL_law) ({ frames := 1, cells := 0, slots := 0, locals := 21 }) E (gs, TX, cy, fun _ => True) ad D classes kx375_c :=
  fx_sound (x := kx375_x) (tb := t_X11_later) (an := kx375_a) (sp := kx375_s) (rk := 0) 12 h (fun _ _ _ _ => trivial) (ht_tys cy) (by decide) rfl ⟨fx_an, (fx_ac fl_X11_47 (fx_an)), fx_an, fx_an, fx_an, (fx_ac (ev_V (kx374 h) (by decide) rfl ⟨by decide, by decide⟩ iV_X7_goOn g_X11_279) (fx_an))⟩ d_X11_later kx375_k
-- X11_seats 0 i
def kx376_c : fx_C := ([.inr (.inr 1), .inl (-2147483648, 2147483647)], [], [(some (.inl (-2147483648, 2147483647)), [.inr (.inr 1), .inl (-2147483648, 2147483647)], [])], [(1, 1), (7, 12), (1000, 16), (1000, 41), (1000, 42), (1000, 43)])
def kx376_a : List fx_N := []
def kx376_s : List fx_D := []
def kx376_x : fx_X := ([], [(47, 11, 5)], [], [], [], [(5, 282, 7, kx362_c)])
set_option maxRecDepth 100000 in
theorem kx376_k : fx_chk TX 2 kx376_c 0 kx376_x t_X11_seats kx376_a kx376_s 7 = true := by decide +kernel
set_option maxRecDepth 100000 in
theorem kx376 {l : Launch} {E : (Nat → Prop) → State → Prop} {ad : List Nat} {D : va_G} {gs : List Nat} {cy : Nat → ClassId} (h : fx_env E D classes (tys cy) nestW) : fx_Met l yX11_seats (.code yX11_seats cX11_seats 2 (some .int) :: wsL_law) ({ frames := 10, cells := 0, slots := 0, locals := 223 }) E (gs, TX, cy, fun _ => True) ad D classes kx376_c :=
  fx_sound (x := kx376_x) (tb := t_X11_seats) (an := kx376_a) (sp := kx376_s) (rk := 0) 7 h (fun _ _ _ _ => trivial) (ht_tys cy) (by decide) rfl ⟨fx_an, (fx_ac fl_X11_47 (fx_an)), fx_an, fx_an, fx_an, (fx_ac (ev_V (kx362 h) (by decide) rfl ⟨by decide, by decide⟩ iV_X7_countKnown g_X11_282) (fx_an))⟩ d_X11_seats kx376_k
