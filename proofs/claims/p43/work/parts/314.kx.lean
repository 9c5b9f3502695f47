-- X7_countAt 6 i i
def kx377_c : fx_C := ([.inr (.inr 7), .inl (0, 4), .inl (0, 4)], [], [(some (.inl (-2147483648, 2147483647)), [.inr (.inr 7), .inl (0, 4), .inl (0, 4)], [])], [])
def kx377_a : List fx_N := []
def kx377_s : List fx_D := []
def kx377_x : fx_X := ([], [(33, 7, 7)], [], [], [], [])
set_option maxRecDepth 100000 in
theorem kx377_k : fx_chk TX 4 kx377_c 0 kx377_x t_X7_countAt kx377_a kx377_s 21 = true := by decide +kernel
set_option maxRecDepth 100000 in
theorem kx377 {l : Launch} {E : (Nat → Prop) → State → Prop} {ad : List Nat} {D : va_G} {gs : List Nat} {cy : Nat → ClassId} (h : fx_env E D classes (tys cy) nestW) : fx_Met l yX7_countAt (.code yX7_countAt cX7_countAt 4 (some .int) :: wsL_law) ({ frames := 0, cells := 0, slots := 0, locals := 0 }) E (gs, TX, cy, fun _ => True) ad D classes kx377_c :=
  fx_sound (x := kx377_x) (tb := t_X7_countAt) (an := kx377_a) (sp := kx377_s) (rk := 0) 21 h (fun _ _ _ _ => trivial) (ht_tys cy) (by decide) rfl ⟨fx_an, (fx_ac fl_X7_33 (fx_an)), fx_an, fx_an, fx_an, fx_an⟩ d_X7_countAt kx377_k
-- X7_surePlace 6 i
def kx378_c : fx_C := ([.inr (.inr 7), .inl (0, 4)], [], [(some (.inl (0, 4)), [.inr (.inr 7), .inl (0, 4)], [((0, 9), .inl (1, 5)), ((0, 12), .inl (1, 2147483647))]), (some (.inl (-2, -2)), [.inr (.inr 7), .inl (0, 4)], [((0, 9), .inl (1, 5))]), (some (.inl (-1, -1)), [.inr (.inr 7), .inl (0, 4)], [])], [])
def kx378_a : List fx_N := [(2, [(0, .inr (.inr 7)), (1, .inl (0, 4)), (2, .inl (0, 5))], [], [(0, 0), (1, 2), (0, 0)], [(0, 0), (1, 1)])]
def kx378_s : List fx_D := []
def kx378_x : fx_X := ([], [(57, 7, 9), (79, 7, 12)], [], [], [], [(13, 99, 7, kx377_c)])
set_option maxRecDepth 100000 in
theorem kx378_k : fx_chk TX 4 kx378_c 0 kx378_x t_X7_surePlace kx378_a kx378_s 20 = true := by decide +kernel
set_option maxRecDepth 100000 in
theorem kx378 {l : Launch} {E : (Nat → Prop) → State → Prop} {ad : List Nat} {D : va_G} {gs : List Nat} {cy : Nat → ClassId} (h : fx_env E D classes (tys cy) nestW) : fx_Met l yX7_surePlace (.code yX7_surePlace cX7_surePlace 4 (some .int) :: wsL_law) ({ frames := 1, cells := 0, slots := 0, locals := 23 }) E (gs, TX, cy, fun _ => True) ad D classes kx378_c :=
  fx_sound (x := kx378_x) (tb := t_X7_surePlace) (an := kx378_a) (sp := kx378_s) (rk := 0) 20 h (fun _ _ _ _ => trivial) (ht_tys cy) (by decide) rfl ⟨fx_an, (fx_ac fl_X7_57 (fx_ac fl_X7_79 (fx_an))), fx_an, fx_an, fx_an, (fx_ac (ev_V (kx377 h) (by decide) rfl ⟨by decide, by decide⟩ iV_X7_countAt g_X7_99) (fx_an))⟩ d_X7_surePlace kx378_k
-- X11_sure 0 i i
def kx379_c : fx_C := ([.inr (.inr 1), .inl (-2147483648, 2147483647), .inl (-2147483648, 2147483647)], [], [(some (.inl (-1, -1)), [.inr (.inr 1), .inl (-2147483648, 2147483647), .inl (-2147483648, 2147483647)], []), (some (.inl (-2, -2)), [.inr (.inr 1), .inl (0, 4), .inl (-2147483648, 2147483647)], [((0, 5), .inr (.inr 7)), ((3, 9), .inl (1, 5)), ((0, 8), .inr (.inr 9)), ((5, 9), .inl (1, 5))]), (some (.inl (0, 4)), [.inr (.inr 1), .inl (0, 4), .inl (-2147483648, 2147483647)], [((0, 5), .inr (.inr 7)), ((3, 9), .inl (1, 5)), ((3, 12), .inl (1, 2147483647)), ((0, 8), .inr (.inr 9)), ((6, 9), .inl (1, 5))])], [(1, 1), (7, 12), (1000, 16), (1000, 41), (1000, 42), (1000, 43)])
def kx379_a : List fx_N := []
def kx379_s : List fx_D := []
def kx379_x : fx_X := ([], [(47, 11, 5)], [], [], [], [(2, 127, 11, kx124_c), (13, 282, 7, kx362_c), (26, 285, 7, kx378_c)])
set_option maxRecDepth 100000 in
theorem kx379_k : fx_chk TX 3 kx379_c 0 kx379_x t_X11_sure kx379_a kx379_s 16 = true := by decide +kernel
set_option maxRecDepth 100000 in
theorem kx379 {l : Launch} {E : (Nat → Prop) → State → Prop} {ad : List Nat} {D : va_G} {gs : List Nat} {cy : Nat → ClassId} (h : fx_env E D classes (tys cy) nestW) : fx_Met l yX11_sure (.code yX11_sure cX11_sure 3 (some .int) :: wsL_law) ({ frames := 10, cells := 0, slots := 0, locals := 223 }) E (gs, TX, cy, fun _ => True) ad D classes kx379_c :=
  fx_sound (x := kx379_x) (tb := t_X11_sure) (an := kx379_a) (sp := kx379_s) (rk := 0) 16 h (fun _ _ _ _ => trivial) (ht_tys cy) (by decide) rfl ⟨fx_an, (fx_ac fl_X11_47 (fx_an)), fx_an, fx_an, fx_an, (fx_ac (ev_V (kx124 h) (by decide) rfl ⟨by decide, by decide⟩ iV_X11_slipOf g_X11_127) (fx_ac (ev_V (kx362 h) (by decide) rfl ⟨by decide, by decide⟩ iV_X7_countKnown g_X11_282) (fx_ac (ev_V (kx378 h) (by decide) rfl ⟨by decide, by decide⟩ iV_X7_surePlace g_X11_285) (fx_an))))⟩ d_X11_sure kx379_k
-- X7_mostLeft 6 i
def kx380_c : fx_C := ([.inr (.inr 7), .inl (0, 4)], [], [(some (.inl (0, 2147483647)), [.inr (.inr 7), .inl (0, 4)], [])], [])
def kx380_a : List fx_N := [(4, [(0, .inr (.inr 7)), (1, .inl (0, 4)), (2, .inl (0, 2147483647)), (3, .inl (0, 5))], [], [(0, 0), (1, 3), (0, 0)], [(0, 0), (1, 1)])]
def kx380_s : List fx_D := []
def kx380_x : fx_X := ([], [(57, 7, 9)], [], [], [], [(16, 99, 7, kx377_c), (19, 105, 1001, ([], [], [], []))])
set_option maxRecDepth 100000 in
theorem kx380_k : fx_chk TX 4 kx380_c 0 kx380_x t_X7_mostLeft kx380_a kx380_s 16 = true := by decide +kernel
set_option maxRecDepth 100000 in
theorem kx380 {l : Launch} {E : (Nat → Prop) → State → Prop} {ad : List Nat} {D : va_G} {gs : List Nat} {cy : Nat → ClassId} (h : fx_env E D classes (tys cy) nestW) : fx_Met l yX7_mostLeft (.code yX7_mostLeft cX7_mostLeft 4 (some .int) :: wsL_law) ({ frames := 1, cells := 0, slots := 0, locals := 23 }) E (gs, TX, cy, fun _ => True) ad D classes kx380_c :=
  fx_sound (x := kx380_x) (tb := t_X7_mostLeft) (an := kx380_a) (sp := kx380_s) (rk := 0) 16 h (fun _ _ _ _ => trivial) (ht_tys cy) (by decide) rfl ⟨fx_an, (fx_ac fl_X7_57 (fx_an)), fx_an, fx_an, fx_an, (fx_ac (ev_V (kx377 h) (by decide) rfl ⟨by decide, by decide⟩ iV_X7_countAt g_X7_99) (fx_ac (ev_M (by decide) ⟨by decide, by decide, m_137, m_1686, m_136, m_138⟩) (fx_an)))⟩ d_X7_mostLeft kx380_k
-- X7_slipToAsk 6
def kx381_c : fx_C := ([.inr (.inr 7)], [], [(some (.inl (0, 4)), [.inr (.inr 7)], [])], [])
def kx381_a : List fx_N := [(4, [(0, .inr (.inr 7)), (1, .inl (0, 4)), (2, .inl (1, 5))], [], [(0, 0), (1, 2), (0, 0)], [(0, 0)])]
def kx381_s : List fx_D := []
def kx381_x : fx_X := ([], [(57, 7, 9)], [], [], [], [(14, 102, 7, kx380_c), (19, 102, 7, kx380_c)])
set_option maxRecDepth 100000 in
theorem kx381_k : fx_chk TX 3 kx381_c 0 kx381_x t_X7_slipToAsk kx381_a kx381_s 18 = true := by decide +kernel
set_option maxRecDepth 100000 in
theorem kx381 {l : Launch} {E : (Nat → Prop) → State → Prop} {ad : List Nat} {D : va_G} {gs : List Nat} {cy : Nat → ClassId} (h : fx_env E D classes (tys cy) nestW) : fx_Met l yX7_slipToAsk (.code yX7_slipToAsk cX7_slipToAsk 3 (some .int) :: wsL_law) ({ frames := 2, cells := 0, slots := 0, locals := 46 }) E (gs, TX, cy, fun _ => True) ad D classes kx381_c :=
  fx_sound (x := kx381_x) (tb := t_X7_slipToAsk) (an := kx381_a) (sp := kx381_s) (rk := 0) 18 h (fun _ _ _ _ => trivial) (ht_tys cy) (by decide) rfl ⟨fx_an, (fx_ac fl_X7_57 (fx_an)), fx_an, fx_an, fx_an, (fx_ac (ev_V (kx380 h) (by decide) rfl ⟨by decide, by decide⟩ iV_X7_mostLeft g_X7_102) (fx_ac (ev_V (kx380 h) (by decide) rfl ⟨by decide, by decide⟩ iV_X7_mostLeft g_X7_102) (fx_an)))⟩ d_X7_slipToAsk kx381_k
-- X11_ask 0 i i
def kx382_c : fx_C := ([.inr (.inr 1), .inl (-2147483648, 2147483647), .inl (-2147483648, 2147483647)], [], [(some (.inl (-1, -1)), [.inr (.inr 1), .inl (-2147483648, 2147483647), .inl (-2147483648, 2147483647)], []), (some (.inl (0, 2147483647)), [.inr (.inr 1), .inl (0, 1), .inl (-2147483648, 2147483647)], [((0, 8), .inr (.inr 9)), ((3, 9), .inl (1, 5))])], [(1, 1), (7, 12), (1000, 16), (1000, 41), (1000, 42), (1000, 43)])
def kx382_a : List fx_N := []
def kx382_s : List fx_D := []
def kx382_x : fx_X := ([], [(47, 11, 5), (66, 11, 8), (105, 10, 9)], [], [], [], [(1, 193, 1000, kx176_c), (22, 282, 7, kx362_c), (34, 288, 7, kx381_c), (51, 291, 7, kx380_c)])
set_option maxRecDepth 100000 in
theorem kx382_k : fx_chk TX 4 kx382_c 0 kx382_x t_X11_ask kx382_a kx382_s 25 = true := by decide +kernel
set_option maxRecDepth 100000 in
theorem kx382 {l : Launch} {E : (Nat → Prop) → State → Prop} {ad : List Nat} {D : va_G} {gs : List Nat} {cy : Nat → ClassId} (h : fx_env E D classes (tys cy) nestW) : fx_Met l yX11_ask (.code yX11_ask cX11_ask 4 (some .int) :: wsL_law) ({ frames := 10, cells := 0, slots := 0, locals := 223 }) E (gs, TX, cy, fun _ => True) ad D classes kx382_c :=
  fx_sound (x := kx382_x) (tb := t_X11_ask) (an := kx382_a) (sp := kx382_s) (rk := 0) 25 h (fun _ _ _ _ => trivial) (ht_tys cy) (by decide) rfl ⟨fx_an, (fx_ac fl_X11_47 (fx_ac fl_X11_66 (fx_ac fl_X11_105 (fx_an)))), fx_an, fx_an, fx_an, (fx_ac (ev_S (kx176 h) ⟨by decide, by decide⟩ iS_X11_isPart g_X11_193) (fx_ac (ev_V (kx362 h) (by decide) rfl ⟨by decide, by decide⟩ iV_X7_countKnown g_X11_282) (fx_ac (ev_V (kx381 h) (by decide) rfl ⟨by decide, by decide⟩ iV_X7_slipToAsk g_X11_288) (fx_ac (ev_V (kx380 h) (by decide) rfl ⟨by decide, by decide⟩ iV_X7_mostLeft g_X11_291) (fx_an)))))⟩ d_X11_ask kx382_k
-- X5_hasBox i
def kx383_c : fx_C := ([.inl (-2147483648, 2147483647)], [], [(some (.inl (1, 1)), [.inl (0, 2)], []), (some (.inl (0, 0)), [.inl (-2147483648, 2147483647)], [])], [])
def kx383_a : List fx_N := []
def kx383_s : List fx_D := []
def kx383_x : fx_X := ([], [], [], [], [], [])
set_option maxRecDepth 100000 in
theorem kx383_k : fx_chk TX 1 kx383_c 3 kx383_x t_X5_hasBox kx383_a kx383_s 10 = true := by decide +kernel
set_option maxRecDepth 100000 in
theorem kx383 {l : Launch} {E : (Nat → Prop) → State → Prop} {ad : List Nat} {D : va_G} {gs : List Nat} {cy : Nat → ClassId} (h : fx_env E D classes (tys cy) nestW) : fx_Met l yX5_hasBox (.code yX5_hasBox cX5_hasBox 1 (some .boolean) :: wsL_law) ({ frames := 0, cells := 0, slots := 0, locals := 0 }) E (gs, TX, cy, fun _ => True) ad D classes kx383_c :=
  fx_sound (x := kx383_x) (tb := t_X5_hasBox) (an := kx383_a) (sp := kx383_s) (rk := 3) 10 h (fun _ _ _ _ => trivial) (ht_tys cy) (by decide) rfl ⟨fx_an, fx_an, fx_an, fx_an, fx_an, fx_an⟩ d_X5_hasBox kx383_k
-- X5_keepIn 2 i
def kx384_c : fx_C := ([.inr (.inr 3), .inl (-2147483648, 2147483647)], [], [(some (.inl (-1, -1)), [.inr (.inr 3), .inl (-2147483648, 2147483647)], []), (some (.inl (-2147483648, 2147483647)), [.inr (.inr 3), .inl (0, 2)], [])], [(1, 1), (8, 1), (8, 2), (1000, 14), (1000, 30)])
def kx384_a : List fx_N := []
def kx384_s : List fx_D := []
def kx384_x : fx_X := ([], [(12, 5, 0), (25, 5, 3), (28, 5, 4), (45, 8, 1)], [], [], [], [(1, 100, 1000, kx383_c), (19, 103, 8, kx114_c)])
set_option maxRecDepth 100000 in
theorem kx384_k : fx_chk TX 2 kx384_c 0 kx384_x t_X5_keepIn kx384_a kx384_s 21 = true := by decide +kernel
set_option maxRecDepth 100000 in
theorem kx384 {l : Launch} {E : (Nat → Prop) → State → Prop} {ad : List Nat} {D : va_G} {gs : List Nat} {cy : Nat → ClassId} (h : fx_env E D classes (tys cy) nestW) : fx_Met l yX5_keepIn (.code yX5_keepIn cX5_keepIn 2 (some .int) :: wsL_law) ({ frames := 4, cells := 0, slots := 0, locals := 84 }) E (gs, TX, cy, fun _ => True) ad D classes kx384_c :=
  fx_sound (x := kx384_x) (tb := t_X5_keepIn) (an := kx384_a) (sp := kx384_s) (rk := 0) 21 h (fun _ _ _ _ => trivial) (ht_tys cy) (by decide) rfl ⟨fx_an, (fx_ac fl_X5_12 (fx_ac fl_X5_25 (fx_ac fl_X5_28 (fx_ac fl_X5_45 (fx_an))))), fx_an, fx_an, fx_an, (fx_ac (ev_S (kx383 h) ⟨by decide, by decide⟩ iS_X5_hasBox g_X5_100) (fx_ac (ev_V (kx114 h) (by decide) rfl ⟨by decide, by decide⟩ iV_X8_copy g_X5_103) (fx_an)))⟩ d_X5_keepIn kx384_k
-- X11_image 0 i
def kx385_c : fx_C := ([.inr (.inr 1), .inl (-2147483648, 2147483647)], [], [(some (.inl (-2147483648, 2147483647)), [.inr (.inr 1), .inl (0, 2)], []), (some (.inl (-1, -1)), [.inr (.inr 1), .inl (-2147483648, 2147483647)], [])], [(1, 1), (8, 1), (8, 2), (1000, 14), (1000, 30)])
def kx385_a : List fx_N := []
def kx385_s : List fx_D := []
def kx385_x : fx_X := ([], [(19, 11, 1)], [], [], [], [(5, 294, 5, kx384_c)])
set_option maxRecDepth 100000 in
theorem kx385_k : fx_chk TX 2 kx385_c 0 kx385_x t_X11_image kx385_a kx385_s 7 = true := by decide +kernel
set_option maxRecDepth 100000 in
theorem kx385 {l : Launch} {E : (Nat → Prop) → State → Prop} {ad : List Nat} {D : va_G} {gs : List Nat} {cy : Nat → ClassId} (h : fx_env E D classes (tys cy) nestW) : fx_Met l yX11_image (.code yX11_image cX11_image 2 (some .int) :: wsL_law) ({ frames := 5, cells := 0, slots := 0, locals := 105 }) E (gs, TX, cy, fun _ => True) ad D classes kx385_c :=
  fx_sound (x := kx385_x) (tb := t_X11_image) (an := kx385_a) (sp := kx385_s) (rk := 0) 7 h (fun _ _ _ _ => trivial) (ht_tys cy) (by decide) rfl ⟨fx_an, (fx_ac fl_X11_19 (fx_an)), fx_an, fx_an, fx_an, (fx_ac (ev_V (kx384 h) (by decide) rfl ⟨by decide, by decide⟩ iV_X5_keepIn g_X11_294) (fx_an))⟩ d_X11_image kx385_k
-- X5_bringBack 2 i
def kx386_c : fx_C := ([.inr (.inr 3), .inl (-2147483648, 2147483647)], [], [(some (.inl (-1, -1)), [.inr (.inr 3), .inl (-2147483648, 2147483647)], []), (some (.inl (-2147483648, 2147483647)), [.inr (.inr 3), .inl (0, 2)], [((0, 5), .inl (0, 0)), ((0, 6), .inl (0, 0))])], [(1, 1), (5, 5), (5, 6), (8, 1), (8, 2), (1000, 14)])
def kx386_a : List fx_N := []
def kx386_s : List fx_D := []
def kx386_x : fx_X := ([], [(12, 5, 0), (25, 5, 3), (28, 5, 4), (45, 8, 1)], [], [], [], [(1, 100, 1000, kx383_c), (28, 103, 8, kx114_c), (32, 55, 5, kx115_c)])
set_option maxRecDepth 100000 in
theorem kx386_k : fx_chk TX 2 kx386_c 0 kx386_x t_X5_bringBack kx386_a kx386_s 23 = true := by decide +kernel
set_option maxRecDepth 100000 in
theorem kx386 {l : Launch} {E : (Nat → Prop) → State → Prop} {ad : List Nat} {D : va_G} {gs : List Nat} {cy : Nat → ClassId} (h : fx_env E D classes (tys cy) nestW) : fx_Met l yX5_bringBack (.code yX5_bringBack cX5_bringBack 2 (some .int) :: wsL_law) ({ frames := 5, cells := 0, slots := 0, locals := 104 }) E (gs, TX, cy, fun _ => True) ad D classes kx386_c :=
  fx_sound (x := kx386_x) (tb := t_X5_bringBack) (an := kx386_a) (sp := kx386_s) (rk := 0) 23 h (fun _ _ _ _ => trivial) (ht_tys cy) (by decide) rfl ⟨fx_an, (fx_ac fl_X5_12 (fx_ac fl_X5_25 (fx_ac fl_X5_28 (fx_ac fl_X5_45 (fx_an))))), fx_an, fx_an, fx_an, (fx_ac (ev_S (kx383 h) ⟨by decide, by decide⟩ iS_X5_hasBox g_X5_100) (fx_ac (ev_V (kx114 h) (by decide) rfl ⟨by decide, by decide⟩ iV_X8_copy g_X5_103) (fx_ac (ev_V (kx115 h) (by decide) rfl ⟨by decide, by decide⟩ iV_X5_forgetActs g_X5_55) (fx_an))))⟩ d_X5_bringBack kx386_k
-- X11_back 0 i
def kx387_c : fx_C := ([.inr (.inr 1), .inl (-2147483648, 2147483647)], [], [(some (.inl (-2147483648, 2147483647)), [.inr (.inr 1), .inl (0, 2)], [((0, 1), .inr (.inr 3)), ((2, 5), .inl (0, 0)), ((2, 6), .inl (0, 0))]), (some (.inl (-1, -1)), [.inr (.inr 1), .inl (-2147483648, 2147483647)], [])], [(1, 1), (5, 5), (5, 6), (8, 1), (8, 2), (1000, 14)])
def kx387_a : List fx_N := []
def kx387_s : List fx_D := []
def kx387_x : fx_X := ([], [(19, 11, 1)], [], [], [], [(5, 297, 5, kx386_c)])
set_option maxRecDepth 100000 in
theorem kx387_k : fx_chk TX 2 kx387_c 0 kx387_x t_X11_back kx387_a kx387_s 7 = true := by decide +kernel
set_option maxRecDepth 100000 in
theorem kx387 {l : Launch} {E : (Nat → Prop) → State → Prop} {ad : List Nat} {D : va_G} {gs : List Nat} {cy : Nat → ClassId} (h : fx_env E D classes (tys cy) nestW) : fx_Met l yX11_back (.code yX11_back cX11_back 2 (some .int) :: wsL_law) ({ frames := 6, cells := 0, slots := 0, locals := 125 }) E (gs, TX, cy, fun _ => True) ad D classes kx387_c :=
  fx_sound (x := kx387_x) (tb := t_X11_back) (an := kx387_a) (sp := kx387_s) (rk := 0) 7 h (fun _ _ _ _ => trivial) (ht_tys cy) (by decide) rfl ⟨fx_an, (fx_ac fl_X11_19 (fx_an)), fx_an, fx_an, fx_an, (fx_ac (ev_V (kx386 h) (by decide) rfl ⟨by decide, by decide⟩ iV_X5_bringBack g_X11_297) (fx_an))⟩ d_X11_back kx387_k
-- X5_actsTakenBack 2
def kx388_c : fx_C := ([.inr (.inr 3)], [], [(some (.inl (-40, 40)), [.inr (.inr 3)], [])], [])
def kx388_a : List fx_N := []
def kx388_s : List fx_D := []
def kx388_x : fx_X := ([], [(91, 5, 5), (97, 5, 6)], [], [], [], [])
set_option maxRecDepth 100000 in
theorem kx388_k : fx_chk TX 1 kx388_c 0 kx388_x t_X5_actsTakenBack kx388_a kx388_s 8 = true := by decide +kernel
set_option maxRecDepth 100000 in
theorem kx388 {l : Launch} {E : (Nat → Prop) → State → Prop} {ad : List Nat} {D : va_G} {gs : List Nat} {cy : Nat → ClassId} (h : fx_env E D classes (tys cy) nestW) : fx_Met l yX5_actsTakenBack (.code yX5_actsTakenBack cX5_actsTakenBack 1 (some .int) :: wsL_law) ({ frames := 0, cells := 0, slots := 0, locals := 0 }) E (gs, TX, cy, fun _ => True) ad D classes kx388_c :=
  fx_sound (x := kx388_x) (tb := t_X5_actsTakenBack) (an := kx388_a) (sp := kx388_s) (rk := 0) 8 h (fun _ _ _ _ => trivial) (ht_tys cy) (by decide) rfl ⟨fx_an, (fx_ac fl_X5_91 (fx_ac fl_X5_97 (fx_an))), fx_an, fx_an, fx_an, fx_an⟩ d_X5_actsTakenBack kx388_k
-- X5_actsDone 2
def kx389_c : fx_C := ([.inr (.inr 3)], [], [(some (.inl (0, 40)), [.inr (.inr 3)], [])], [])
def kx389_a : List fx_N := []
def kx389_s : List fx_D := []
def kx389_x : fx_X := ([], [(91, 5, 5)], [], [], [], [])
set_option maxRecDepth 100000 in
theorem kx389_k : fx_chk TX 1 kx389_c 0 kx389_x t_X5_actsDone kx389_a kx389_s 5 = true := by decide +kernel
set_option maxRecDepth 100000 in
theorem kx389 {l : Launch} {E : (Nat → Prop) → State → Prop} {ad : List Nat} {D : va_G} {gs : List Nat} {cy : Nat → ClassId} (h : fx_env E D classes (tys cy) nestW) : fx_Met l yX5_actsDone (.code yX5_actsDone cX5_actsDone 1 (some .int) :: wsL_law) ({ frames := 0, cells := 0, slots := 0, locals := 0 }) E (gs, TX, cy, fun _ => True) ad D classes kx389_c :=
  fx_sound (x := kx389_x) (tb := t_X5_actsDone) (an := kx389_a) (sp := kx389_s) (rk := 0) 5 h (fun _ _ _ _ => trivial) (ht_tys cy) (by decide) rfl ⟨fx_an, (fx_ac fl_X5_91 (fx_an)), fx_an, fx_an, fx_an, fx_an⟩ d_X5_actsDone kx389_k
-- X11_about 0 i
def kx390_c : fx_C := ([.inr (.inr 1), .inl (-2147483648, 2147483647)], [], [(some (.inl (-1, -1)), [.inr (.inr 1), .inl (-2147483648, 2147483647)], []), (some (.inl (-2147483648, 2147483647)), [.inr (.inr 1), .inl (0, 12)], [])], [])
def kx390_a : List fx_N := []
def kx390_s : List fx_D := []
def kx390_x : fx_X := ([], [(10, 11, 0), (19, 11, 1), (47, 11, 5), (56, 11, 6), (66, 11, 8), (70, 6, 0), (83, 9, 2), (105, 10, 9), (114, 5, 0), (118, 8, 0), (134, 1, 1), (300, 10, 7), (303, 8, 1), (306, 8, 2), (309, 10, 8), (318, 7, 10), (321, 7, 11), (324, 10, 6), (328, 0, 6)], [], [], [], [(132, 312, 5, kx389_c), (140, 315, 5, kx388_c)])
set_option maxRecDepth 100000 in
theorem kx390_k : fx_chk TX 2 kx390_c 0 kx390_x t_X11_about kx390_a kx390_s 10 = true := by decide +kernel
set_option maxRecDepth 100000 in
theorem kx390 {l : Launch} {E : (Nat → Prop) → State → Prop} {ad : List Nat} {D : va_G} {gs : List Nat} {cy : Nat → ClassId} (h : fx_env E D classes (tys cy) nestW) : fx_Met l yX11_about (.code yX11_about cX11_about 2 (some .int) :: wsL_law) ({ frames := 1, cells := 0, slots := 0, locals := 20 }) E (gs, TX, cy, fun _ => True) ad D classes kx390_c :=
  fx_sound (x := kx390_x) (tb := t_X11_about) (an := kx390_a) (sp := kx390_s) (rk := 0) 10 h (fun _ _ _ _ => trivial) (ht_tys cy) (by decide) rfl ⟨fx_an, (fx_ac fl_X11_10 (fx_ac fl_X11_19 (fx_ac fl_X11_47 (fx_ac fl_X11_56 (fx_ac fl_X11_66 (fx_ac fl_X11_70 (fx_ac fl_X11_83 (fx_ac fl_X11_105 (fx_ac fl_X11_114 (fx_ac fl_X11_118 (fx_ac fl_X11_134 (fx_ac fl_X11_300 (fx_ac fl_X11_303 (fx_ac fl_X11_306 (fx_ac fl_X11_309 (fx_ac fl_X11_318 (fx_ac fl_X11_321 (fx_ac fl_X11_324 (fx_ac fl_X11_328 (fx_an)))))))))))))))))))), fx_an, fx_an, fx_an, (fx_ac (ev_V (kx389 h) (by decide) rfl ⟨by decide, by decide⟩ iV_X5_actsDone g_X11_312) (fx_ac (ev_V (kx388 h) (by decide) rfl ⟨by decide, by decide⟩ iV_X5_actsTakenBack g_X11_315) (fx_an)))⟩ d_X11_about kx390_k
