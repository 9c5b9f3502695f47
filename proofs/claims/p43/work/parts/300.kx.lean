-- X9_hasRoom 7 i
def kx0_c : fx_C := ([.inr (.inr 8), .inl (20, 20)], [], [(some (.inl (1, 1)), [.inr (.inr 8), .inl (20, 20)], [((0, 2), .inl (0, 1580))]), (some (.inl (0, 0)), [.inr (.inr 8), .inl (20, 20)], [((0, 2), .inl (1581, 1600))])], [])
def kx0_a : List fx_N := []
def kx0_s : List fx_D := []
def kx0_x : fx_X := ([], [(9, 9, 0), (31, 9, 2)], [], [], [], [])
set_option maxRecDepth 100000 in
theorem kx0_k : fx_chk TX 2 kx0_c 3 kx0_x t_X9_hasRoom kx0_a kx0_s 13 = true := by decide +kernel
set_option maxRecDepth 100000 in
theorem kx0 {l : Launch} {E : (Nat → Prop) → State → Prop} {ad : List Nat} {D : va_G} {gs : List Nat} {cy : Nat → ClassId} (h : fxX E D cy) : fx_Met l yX9_hasRoom (.code yX9_hasRoom cX9_hasRoom 2 (some .boolean) :: wsL_law) ({ frames := 0, cells := 0, slots := 0, locals := 0 }) E (gs, TX, cy, fun _ => True) ad D classes kx0_c :=
  fx_sound (x := kx0_x) (tb := t_X9_hasRoom) (an := kx0_a) (sp := kx0_s) (rk := 3) 13 h.1 (fun _ _ _ _ _ _ => trivial) (fun _ _ _ _ _ _ => trivial) (ht_tys cy) (by decide) rfl ⟨fx_an, (fx_ac fl_X9_9 (fx_ac fl_X9_31 (fx_an))), fx_an, fx_an, fx_an, fx_an⟩ d_X9_hasRoom kx0_k
-- X9_append 7 i
def kx1_c : fx_C := ([.inr (.inr 8), .inl (-2147483648, 2147483647)], [], [(none, [.inr (.inr 8), .inl (-2147483648, 2147483647)], [])], [(9, 2), (1000, 26)])
def kx1_a : List fx_N := [(3, [(0, .inr (.inr 8)), (1, .inl (-2147483648, 2147483647)), (2, .inl (-128, 24))], [], [(0, 0), (2, 2), (0, 0)], [(0, 0), (1, 1)])]
def kx1_s : List fx_D := []
def kx1_x : fx_X := ([], [(9, 9, 0), (31, 9, 2)], [(31, 9, 2, 0)], [], [], [])
set_option maxRecDepth 100000 in
theorem kx1_k : fx_chk TX 3 kx1_c 9 kx1_x t_X9_append kx1_a kx1_s 31 = true := by decide +kernel
set_option maxRecDepth 100000 in
theorem kx1 {l : Launch} {E : (Nat → Prop) → State → Prop} {ad : List Nat} {D : va_G} {gs : List Nat} {cy : Nat → ClassId} (h : fxX E D cy) : fx_Met l yX9_append (.code yX9_append cX9_append 3 none :: wsL_law) ({ frames := 0, cells := 0, slots := 0, locals := 0 }) E (gs, TX, cy, fun _ => True) ad D classes kx1_c :=
  fx_sound (x := kx1_x) (tb := t_X9_append) (an := kx1_a) (sp := kx1_s) (rk := 9) 31 h.1 (fun _ _ _ _ _ _ => trivial) (fun _ _ _ _ _ _ => trivial) (ht_tys cy) (by decide) rfl ⟨fx_an, (fx_ac fl_X9_9 (fx_ac fl_X9_31 (fx_an))), (fx_ac pl_X9_31 (fx_an)), fx_an, fx_an, fx_an⟩ d_X9_append kx1_k
-- X11_feed 0 i i i i i
def kx2_c : fx_C := ([.inr (.inr 1), .inl (-2147483648, 2147483647), .inl (-2147483648, 2147483647), .inl (-2147483648, 2147483647), .inl (-2147483648, 2147483647), .inl (-2147483648, 2147483647)], [], [(some (.inl (-1, -1)), [.inr (.inr 1), .inl (-2147483648, 2147483647), .inl (-2147483648, 2147483647), .inl (-2147483648, 2147483647), .inl (-2147483648, 2147483647), .inl (-2147483648, 2147483647)], [((0, 0), .inr (.inr 2)), ((6, 0), .inr (.inr 8)), ((7, 2), .inl (1581, 1600))]), (some (.inl (0, 1600)), [.inr (.inr 1), .inl (-2147483648, 2147483647), .inl (-2147483648, 2147483647), .inl (-2147483648, 2147483647), .inl (-2147483648, 2147483647), .inl (-2147483648, 2147483647)], [])], [(9, 2), (1000, 26)])
def kx2_a : List fx_N := []
def kx2_s : List fx_D := []
def kx2_x : fx_X := ([], [(10, 11, 0), (70, 6, 0), (83, 9, 2)], [], [], [], [(13, 74, 9, kx0_c), (24, 80, 9, kx1_c), (30, 80, 9, kx1_c), (36, 80, 9, kx1_c), (43, 80, 9, kx1_c), (50, 80, 9, kx1_c)])
set_option maxRecDepth 100000 in
theorem kx2_k : fx_chk TX 7 kx2_c 0 kx2_x t_X11_feed kx2_a kx2_s 28 = true := by decide +kernel
set_option maxRecDepth 100000 in
theorem kx2 {l : Launch} {E : (Nat → Prop) → State → Prop} {ad : List Nat} {D : va_G} {gs : List Nat} {cy : Nat → ClassId} (h : fxX E D cy) : fx_Met l yX11_feed (.code yX11_feed cX11_feed 7 (some .int) :: wsL_law) ({ frames := 1, cells := 0, slots := 0, locals := 22 }) E (gs, TX, cy, fun _ => True) ad D classes kx2_c :=
  fx_sound (x := kx2_x) (tb := t_X11_feed) (an := kx2_a) (sp := kx2_s) (rk := 0) 28 h.1 (fun _ _ _ _ _ _ => trivial) (fun _ _ _ _ _ _ => trivial) (ht_tys cy) (by decide) rfl ⟨fx_an, (fx_ac fl_X11_10 (fx_ac fl_X11_70 (fx_ac fl_X11_83 (fx_an)))), fx_an, fx_an, fx_an, (fx_ac (ev_V (kx0 h) (by decide) rfl ⟨by decide, by decide⟩ iV_X9_hasRoom g_X11_74) (fx_ac (ev_V (kx1 h) (by decide) rfl ⟨by decide, by decide⟩ iV_X9_append g_X11_80) (fx_ac (ev_V (kx1 h) (by decide) rfl ⟨by decide, by decide⟩ iV_X9_append g_X11_80) (fx_ac (ev_V (kx1 h) (by decide) rfl ⟨by decide, by decide⟩ iV_X9_append g_X11_80) (fx_ac (ev_V (kx1 h) (by decide) rfl ⟨by decide, by decide⟩ iV_X9_append g_X11_80) (fx_ac (ev_V (kx1 h) (by decide) rfl ⟨by decide, by decide⟩ iV_X9_append g_X11_80) (fx_an)))))))⟩ d_X11_feed kx2_k
-- X11_end 0 i
def kx3_c : fx_C := ([.inr (.inr 1), .inl (-2147483648, 2147483647)], [], [(some (.inl (-1, -1)), [.inr (.inr 1), .inl (-2147483648, 2147483647)], []), (some (.inl (0, 1600)), [.inr (.inr 1), .inl (0, 1600)], [])], [(9, 2)])
def kx3_a : List fx_N := []
def kx3_s : List fx_D := []
def kx3_x : fx_X := ([], [(10, 11, 0), (70, 6, 0), (83, 9, 2)], [(83, 9, 2, 0)], [], [], [])
set_option maxRecDepth 100000 in
theorem kx3_k : fx_chk TX 2 kx3_c 0 kx3_x t_X11_end kx3_a kx3_s 17 = true := by decide +kernel
set_option maxRecDepth 100000 in
theorem kx3 {l : Launch} {E : (Nat → Prop) → State → Prop} {ad : List Nat} {D : va_G} {gs : List Nat} {cy : Nat → ClassId} (h : fxX E D cy) : fx_Met l yX11_end (.code yX11_end cX11_end 2 (some .int) :: wsL_law) ({ frames := 0, cells := 0, slots := 0, locals := 0 }) E (gs, TX, cy, fun _ => True) ad D classes kx3_c :=
  fx_sound (x := kx3_x) (tb := t_X11_end) (an := kx3_a) (sp := kx3_s) (rk := 0) 17 h.1 (fun _ _ _ _ _ _ => trivial) (fun _ _ _ _ _ _ => trivial) (ht_tys cy) (by decide) rfl ⟨fx_an, (fx_ac fl_X11_10 (fx_ac fl_X11_70 (fx_ac fl_X11_83 (fx_an)))), (fx_ac pl_X11_83 (fx_an)), fx_an, fx_an, fx_an⟩ d_X11_end kx3_k
-- X1_clear 11
def kx4_c : fx_C := ([.inr (.inr 12)], [], [(none, [.inr (.inr 12)], [((0, 1), .inl (0, 0))])], [(1, 1)])
def kx4_a : List fx_N := []
def kx4_s : List fx_D := []
def kx4_x : fx_X := ([], [], [(21, 1, 1, 0)], [], [], [])
set_option maxRecDepth 100000 in
theorem kx4_k : fx_chk TX 1 kx4_c 9 kx4_x t_X1_clear kx4_a kx4_s 6 = true := by decide +kernel
set_option maxRecDepth 100000 in
theorem kx4 {l : Launch} {E : (Nat → Prop) → State → Prop} {ad : List Nat} {D : va_G} {gs : List Nat} {cy : Nat → ClassId} (h : fxX E D cy) : fx_Met l yX1_clear (.code yX1_clear cX1_clear 1 none :: wsL_law) ({ frames := 0, cells := 0, slots := 0, locals := 0 }) E (gs, TX, cy, fun _ => True) ad D classes kx4_c :=
  fx_sound (x := kx4_x) (tb := t_X1_clear) (an := kx4_a) (sp := kx4_s) (rk := 9) 6 h.1 (fun _ _ _ _ _ _ => trivial) (fun _ _ _ _ _ _ => trivial) (ht_tys cy) (by decide) rfl ⟨fx_an, fx_an, (fx_ac pl_X1_21 (fx_an)), fx_an, fx_an, fx_an⟩ d_X1_clear kx4_k
-- X0_clear 9
def kx5_c : fx_C := ([.inr (.inr 10)], [], [(none, [.inr (.inr 10)], [((0, 4), .inl (0, 0)), ((0, 6), .inl (0, 0)), ((0, 7), .inl (0, 0))])], [(0, 4), (0, 6), (0, 7)])
def kx5_a : List fx_N := []
def kx5_s : List fx_D := []
def kx5_x : fx_X := ([], [], [(24, 0, 4, 0), (28, 0, 6, 0), (31, 0, 7, 3)], [], [], [])
set_option maxRecDepth 100000 in
theorem kx5_k : fx_chk TX 1 kx5_c 9 kx5_x t_X0_clear kx5_a kx5_s 12 = true := by decide +kernel
set_option maxRecDepth 100000 in
theorem kx5 {l : Launch} {E : (Nat → Prop) → State → Prop} {ad : List Nat} {D : va_G} {gs : List Nat} {cy : Nat → ClassId} (h : fxX E D cy) : fx_Met l yX0_clear (.code yX0_clear cX0_clear 1 none :: wsL_law) ({ frames := 0, cells := 0, slots := 0, locals := 0 }) E (gs, TX, cy, fun _ => True) ad D classes kx5_c :=
  fx_sound (x := kx5_x) (tb := t_X0_clear) (an := kx5_a) (sp := kx5_s) (rk := 9) 12 h.1 (fun _ _ _ _ _ _ => trivial) (fun _ _ _ _ _ _ => trivial) (ht_tys cy) (by decide) rfl ⟨fx_an, fx_an, (fx_ac pl_X0_24 (fx_ac pl_X0_28 (fx_ac pl_X0_31 (fx_an)))), fx_an, fx_an, fx_an⟩ d_X0_clear kx5_k
-- J7_fill_53178 23 i
def kx6_c : fx_C := ([.inr (.inr 24), .inl (0, 0)], [], [(none, [.inr (.inr 24), .inl (0, 0)], [])], [(1000, 23)])
def kx6_a : List fx_N := [(5, [(0, .inr (.inr 24)), (1, .inl (0, 0)), (2, .inl (0, 81)), (3, .inl (81, 81))], [], [(0, 0), (1, 2), (0, 0)], [(0, 0), (1, 1)])]
def kx6_s : List fx_D := []
def kx6_x : fx_X := ([], [], [], [], [], [])
set_option maxRecDepth 100000 in
theorem kx6_k : fx_chk TX 4 kx6_c 9 kx6_x t_J7_fill_53178 kx6_a kx6_s 12 = true := by decide +kernel
set_option maxRecDepth 100000 in
theorem kx6 {l : Launch} {E : (Nat → Prop) → State → Prop} {ad : List Nat} {D : va_G} {gs : List Nat} {cy : Nat → ClassId} (h : fxX E D cy) : fx_Met l yJ7_fill_53178 (.code yJ7_fill_53178 cJ7_fill_53178 4 none :: wsL_law) ({ frames := 0, cells := 0, slots := 0, locals := 0 }) E (gs, TX, cy, fun _ => True) ad D classes kx6_c :=
  fx_sound (x := kx6_x) (tb := t_J7_fill_53178) (an := kx6_a) (sp := kx6_s) (rk := 9) 12 h.1 (fun _ _ _ _ _ _ => trivial) (fun _ _ _ _ _ _ => trivial) (ht_tys cy) (by decide) rfl ⟨fx_an, fx_an, fx_an, fx_an, fx_an, fx_an⟩ d_J7_fill_53178 kx6_k
-- X10_clear 8
def kx7_c : fx_C := ([.inr (.inr 9)], [], [(none, [.inr (.inr 9)], [((0, 7), .inl (0, 0)), ((0, 8), .inl (0, 0)), ((0, 9), .inl (0, 0)), ((0, 10), .inl (0, 0)), ((0, 11), .inl (0, 0)), ((0, 4), .inr (.inr 12)), ((6, 1), .inl (0, 0)), ((0, 6), .inr (.inr 10)), ((8, 4), .inl (0, 0)), ((8, 6), .inl (0, 0)), ((8, 7), .inl (0, 0))])], [(0, 4), (0, 6), (0, 7), (1, 1), (10, 7), (10, 8), (10, 9), (10, 10), (10, 11), (1000, 23), (1000, 24)])
def kx7_a : List fx_N := [(49, [(0, .inr (.inr 9)), (1, .inl (0, 81))], [((0, 7), .inl (0, 0)), ((0, 8), .inl (0, 0)), ((0, 9), .inl (0, 0)), ((0, 10), .inl (0, 0)), ((0, 11), .inl (0, 0)), ((0, 4), .inr (.inr 12)), ((7, 1), .inl (0, 0)), ((0, 6), .inr (.inr 10)), ((9, 4), .inl (0, 0)), ((9, 6), .inl (0, 0)), ((9, 7), .inl (0, 0))], [(0, 0), (1, 1), (0, 0)], [(0, 0)])]
def kx7_s : List fx_D := []
def kx7_x : fx_X := ([], [(19, 10, 2), (22, 10, 3), (31, 10, 4), (42, 10, 6)], [(46, 10, 7, 0), (50, 10, 8, 0), (53, 10, 9, 0), (56, 10, 10, 0), (59, 10, 11, 3)], [], [], [(29, 63, 1, kx4_c), (36, 66, 0, kx5_c), (44, 67, 1000, kx6_c)])
set_option maxRecDepth 100000 in
theorem kx7_k : fx_chk TX 2 kx7_c 9 kx7_x t_X10_clear kx7_a kx7_s 30 = true := by decide +kernel
set_option maxRecDepth 100000 in
theorem kx7 {l : Launch} {E : (Nat → Prop) → State → Prop} {ad : List Nat} {D : va_G} {gs : List Nat} {cy : Nat → ClassId} (h : fxX E D cy) : fx_Met l yX10_clear (.code yX10_clear cX10_clear 2 none :: wsL_law) ({ frames := 1, cells := 0, slots := 0, locals := 23 }) E (gs, TX, cy, fun _ => True) ad D classes kx7_c :=
  fx_sound (x := kx7_x) (tb := t_X10_clear) (an := kx7_a) (sp := kx7_s) (rk := 9) 30 h.1 (fun _ _ _ _ _ _ => trivial) (fun _ _ _ _ _ _ => trivial) (ht_tys cy) (by decide) rfl ⟨fx_an, (fx_ac fl_X10_19 (fx_ac fl_X10_22 (fx_ac fl_X10_31 (fx_ac fl_X10_42 (fx_an))))), (fx_ac pl_X10_46 (fx_ac pl_X10_50 (fx_ac pl_X10_53 (fx_ac pl_X10_56 (fx_ac pl_X10_59 (fx_an)))))), fx_an, fx_an, (fx_ac (ev_V (kx4 h) (by decide) rfl ⟨by decide, by decide⟩ iV_X1_clear g_X10_63) (fx_ac (ev_V (kx5 h) (by decide) rfl ⟨by decide, by decide⟩ iV_X0_clear g_X10_66) (fx_ac (ev_S (kx6 h) ⟨by decide, by decide⟩ iS_J7_fill_53178 g_X10_67) (fx_an))))⟩ d_X10_clear kx7_k
-- X9_signAt 7 i
def kx8_c : fx_C := ([.inr (.inr 8), .inl (-2147483648, 2147483647)], [], [(some (.inl (0, 255)), [.inr (.inr 8), .inl (0, 1599)], [((0, 2), .inl (1, 1600))]), (some (.inl (-1, -1)), [.inr (.inr 8), .inl (-2147483648, 2147483647)], [])], [])
def kx8_a : List fx_N := []
def kx8_s : List fx_D := []
def kx8_x : fx_X := ([], [(9, 9, 0), (31, 9, 2)], [], [], [], [])
set_option maxRecDepth 100000 in
theorem kx8_k : fx_chk TX 2 kx8_c 0 kx8_x t_X9_signAt kx8_a kx8_s 21 = true := by decide +kernel
set_option maxRecDepth 100000 in
theorem kx8 {l : Launch} {E : (Nat → Prop) → State → Prop} {ad : List Nat} {D : va_G} {gs : List Nat} {cy : Nat → ClassId} (h : fxX E D cy) : fx_Met l yX9_signAt (.code yX9_signAt cX9_signAt 2 (some .int) :: wsL_law) ({ frames := 0, cells := 0, slots := 0, locals := 0 }) E (gs, TX, cy, fun _ => True) ad D classes kx8_c :=
  fx_sound (x := kx8_x) (tb := t_X9_signAt) (an := kx8_a) (sp := kx8_s) (rk := 0) 21 h.1 (fun _ _ _ _ _ _ => trivial) (fun _ _ _ _ _ _ => trivial) (ht_tys cy) (by decide) rfl ⟨fx_an, (fx_ac fl_X9_9 (fx_ac fl_X9_31 (fx_an))), fx_an, fx_an, fx_an, fx_an⟩ d_X9_signAt kx8_k
-- X9_isBlank i
def kx9_c : fx_C := ([.inl (-1, 255)], [], [(some (.inl (1, 1)), [.inl (10, 32)], []), (some (.inl (0, 0)), [.inl (-1, 255)], [])], [])
def kx9_a : List fx_N := []
def kx9_s : List fx_D := []
def kx9_x : fx_X := ([], [], [], [], [], [])
set_option maxRecDepth 100000 in
theorem kx9_k : fx_chk TX 1 kx9_c 3 kx9_x t_X9_isBlank kx9_a kx9_s 11 = true := by decide +kernel
set_option maxRecDepth 100000 in
theorem kx9 {l : Launch} {E : (Nat → Prop) → State → Prop} {ad : List Nat} {D : va_G} {gs : List Nat} {cy : Nat → ClassId} (h : fxX E D cy) : fx_Met l yX9_isBlank (.code yX9_isBlank cX9_isBlank 1 (some .boolean) :: wsL_law) ({ frames := 0, cells := 0, slots := 0, locals := 0 }) E (gs, TX, cy, fun _ => True) ad D classes kx9_c :=
  fx_sound (x := kx9_x) (tb := t_X9_isBlank) (an := kx9_a) (sp := kx9_s) (rk := 3) 11 h.1 (fun _ _ _ _ _ _ => trivial) (fun _ _ _ _ _ _ => trivial) (ht_tys cy) (by decide) rfl ⟨fx_an, fx_an, fx_an, fx_an, fx_an, fx_an⟩ d_X9_isBlank kx9_k
-- X9_skipBlanks 7
def kx10_c : fx_C := ([.inr (.inr 8)], [], [(none, [.inr (.inr 8)], [])], [(9, 3)])
def kx10_a : List fx_N := [(0, [(0, .inr (.inr 8))], [((0, 3), .inl (-2147483648, 2147483647))], [(0, 0), (1, 1), (0, 0)], [(0, 0)])]
def kx10_s : List fx_D := []
def kx10_x : fx_X := ([], [(31, 9, 2), (34, 9, 3)], [(34, 9, 3, 0)], [], [], [(16, 46, 9, kx8_c), (19, 71, 1000, kx9_c)])
set_option maxRecDepth 100000 in
theorem kx10_k : fx_chk TX 1 kx10_c 9 kx10_x t_X9_skipBlanks kx10_a kx10_s 21 = true := by decide +kernel
set_option maxRecDepth 100000 in
theorem kx10 {l : Launch} {E : (Nat → Prop) → State → Prop} {ad : List Nat} {D : va_G} {gs : List Nat} {cy : Nat → ClassId} (h : fxX E D cy) : fx_Met l yX9_skipBlanks (.code yX9_skipBlanks cX9_skipBlanks 1 none :: wsL_law) ({ frames := 1, cells := 0, slots := 0, locals := 21 }) E (gs, TX, cy, fun _ => True) ad D classes kx10_c :=
  fx_sound (x := kx10_x) (tb := t_X9_skipBlanks) (an := kx10_a) (sp := kx10_s) (rk := 9) 21 h.1 (fun _ _ _ _ _ _ => trivial) (fun _ _ _ _ _ _ => trivial) (ht_tys cy) (by decide) rfl ⟨fx_an, (fx_ac fl_X9_31 (fx_ac fl_X9_34 (fx_an))), (fx_ac pl_X9_34 (fx_an)), fx_an, fx_an, (fx_ac (ev_V (kx8 h) (by decide) rfl ⟨by decide, by decide⟩ iV_X9_signAt g_X9_46) (fx_ac (ev_S (kx9 h) ⟨by decide, by decide⟩ iS_X9_isBlank g_X9_71) (fx_an)))⟩ d_X9_skipBlanks kx10_k
-- X9_isLetter i
def kx11_c : fx_C := ([.inl (-2147483648, 2147483647)], [], [(some (.inl (1, 1)), [.inl (97, 122)], []), (some (.inl (0, 0)), [.inl (-2147483648, 2147483647)], [])], [])
def kx11_a : List fx_N := []
def kx11_s : List fx_D := []
def kx11_x : fx_X := ([], [], [], [], [], [])
set_option maxRecDepth 100000 in
theorem kx11_k : fx_chk TX 1 kx11_c 3 kx11_x t_X9_isLetter kx11_a kx11_s 11 = true := by decide +kernel
set_option maxRecDepth 100000 in
theorem kx11 {l : Launch} {E : (Nat → Prop) → State → Prop} {ad : List Nat} {D : va_G} {gs : List Nat} {cy : Nat → ClassId} (h : fxX E D cy) : fx_Met l yX9_isLetter (.code yX9_isLetter cX9_isLetter 1 (some .boolean) :: wsL_law) ({ frames := 0, cells := 0, slots := 0, locals := 0 }) E (gs, TX, cy, fun _ => True) ad D classes kx11_c :=
  fx_sound (x := kx11_x) (tb := t_X9_isLetter) (an := kx11_a) (sp := kx11_s) (rk := 3) 11 h.1 (fun _ _ _ _ _ _ => trivial) (fun _ _ _ _ _ _ => trivial) (ht_tys cy) (by decide) rfl ⟨fx_an, fx_an, fx_an, fx_an, fx_an, fx_an⟩ d_X9_isLetter kx11_k
-- X9_kindOfName 7
def kx12_c : fx_C := ([.inr (.inr 8)], [], [(some (.inl (256, 270)), [.inr (.inr 8)], []), (some (.inl (97, 97)), [.inr (.inr 8)], [])], [])
def kx12_a : List fx_N := [(2, [(0, .inr (.inr 8)), (1, .inl (0, 15))], [], [(0, 0), (1, 1), (0, 0)], [(0, 0)])]
def kx12_s : List fx_D := []
def kx12_x : fx_X := ([], [(15, 9, 1), (74, 9, 7)], [], [], [], [])
set_option maxRecDepth 100000 in
theorem kx12_k : fx_chk TX 2 kx12_c 0 kx12_x t_X9_kindOfName kx12_a kx12_s 19 = true := by decide +kernel
set_option maxRecDepth 100000 in
theorem kx12 {l : Launch} {E : (Nat → Prop) → State → Prop} {ad : List Nat} {D : va_G} {gs : List Nat} {cy : Nat → ClassId} (h : fxX E D cy) : fx_Met l yX9_kindOfName (.code yX9_kindOfName cX9_kindOfName 2 (some .int) :: wsL_law) ({ frames := 0, cells := 0, slots := 0, locals := 0 }) E (gs, TX, cy, fun _ => True) ad D classes kx12_c :=
  fx_sound (x := kx12_x) (tb := t_X9_kindOfName) (an := kx12_a) (sp := kx12_s) (rk := 0) 19 h.1 (fun _ _ _ _ _ _ => trivial) (fun _ _ _ _ _ _ => trivial) (ht_tys cy) (by decide) rfl ⟨fx_an, (fx_ac fl_X9_15 (fx_ac fl_X9_74 (fx_an))), fx_an, fx_an, fx_an, fx_an⟩ d_X9_kindOfName kx12_k
-- X9_readLetters 7
def kx13_c : fx_C := ([.inr (.inr 8)], [], [(none, [.inr (.inr 8)], [((0, 4), .inl (1, 270))])], [(9, 3), (9, 4), (9, 7)])
def kx13_a : List fx_N := [(5, [(0, .inr (.inr 8))], [((0, 3), .inl (-2147483648, 2147483647))], [(0, 0), (1, 1), (0, 0)], [(0, 0)])]
def kx13_s : List fx_D := []
def kx13_x : fx_X := ([], [(31, 9, 2), (34, 9, 3), (43, 9, 5), (74, 9, 7)], [(34, 9, 3, 0), (63, 9, 4, 0), (74, 9, 7, 1)], [], [], [(21, 46, 9, kx8_c), (24, 50, 1000, kx11_c), (43, 46, 9, kx8_c), (84, 78, 9, kx12_c)])
set_option maxRecDepth 100000 in
theorem kx13_k : fx_chk TX 1 kx13_c 9 kx13_x t_X9_readLetters kx13_a kx13_s 33 = true := by decide +kernel
set_option maxRecDepth 100000 in
theorem kx13 {l : Launch} {E : (Nat → Prop) → State → Prop} {ad : List Nat} {D : va_G} {gs : List Nat} {cy : Nat → ClassId} (h : fxX E D cy) : fx_Met l yX9_readLetters (.code yX9_readLetters cX9_readLetters 1 none :: wsL_law) ({ frames := 1, cells := 0, slots := 0, locals := 21 }) E (gs, TX, cy, fun _ => True) ad D classes kx13_c :=
  fx_sound (x := kx13_x) (tb := t_X9_readLetters) (an := kx13_a) (sp := kx13_s) (rk := 9) 33 h.1 (fun _ _ _ _ _ _ => trivial) (fun _ _ _ _ _ _ => trivial) (ht_tys cy) (by decide) rfl ⟨fx_an, (fx_ac fl_X9_31 (fx_ac fl_X9_34 (fx_ac fl_X9_43 (fx_ac fl_X9_74 (fx_an))))), (fx_ac pl_X9_34 (fx_ac pl_X9_63 (fx_ac pl_X9_74 (fx_an)))), fx_an, fx_an, (fx_ac (ev_V (kx8 h) (by decide) rfl ⟨by decide, by decide⟩ iV_X9_signAt g_X9_46) (fx_ac (ev_S (kx11 h) ⟨by decide, by decide⟩ iS_X9_isLetter g_X9_50) (fx_ac (ev_V (kx8 h) (by decide) rfl ⟨by decide, by decide⟩ iV_X9_signAt g_X9_46) (fx_ac (ev_V (kx12 h) (by decide) rfl ⟨by decide, by decide⟩ iV_X9_kindOfName g_X9_78) (fx_an)))))⟩ d_X9_readLetters kx13_k
-- X9_isDigit i
def kx14_c : fx_C := ([.inl (-2147483648, 2147483647)], [], [(some (.inl (1, 1)), [.inl (48, 57)], []), (some (.inl (0, 0)), [.inl (-2147483648, 2147483647)], [])], [])
def kx14_a : List fx_N := []
def kx14_s : List fx_D := []
def kx14_x : fx_X := ([], [], [], [], [], [])
set_option maxRecDepth 100000 in
theorem kx14_k : fx_chk TX 1 kx14_c 3 kx14_x t_X9_isDigit kx14_a kx14_s 11 = true := by decide +kernel
set_option maxRecDepth 100000 in
theorem kx14 {l : Launch} {E : (Nat → Prop) → State → Prop} {ad : List Nat} {D : va_G} {gs : List Nat} {cy : Nat → ClassId} (h : fxX E D cy) : fx_Met l yX9_isDigit (.code yX9_isDigit cX9_isDigit 1 (some .boolean) :: wsL_law) ({ frames := 0, cells := 0, slots := 0, locals := 0 }) E (gs, TX, cy, fun _ => True) ad D classes kx14_c :=
  fx_sound (x := kx14_x) (tb := t_X9_isDigit) (an := kx14_a) (sp := kx14_s) (rk := 3) 11 h.1 (fun _ _ _ _ _ _ => trivial) (fun _ _ _ _ _ _ => trivial) (ht_tys cy) (by decide) rfl ⟨fx_an, fx_an, fx_an, fx_an, fx_an, fx_an⟩ d_X9_isDigit kx14_k
-- X9_readDigits 7
def kx15_c : fx_C := ([.inr (.inr 8)], [], [(none, [.inr (.inr 8)], [((0, 4), .inl (1, 48))])], [(9, 3), (9, 4), (9, 6)])
def kx15_a : List fx_N := [(5, [(0, .inr (.inr 8))], [((0, 3), .inl (-2147483648, 2147483647)), ((0, 6), .inl (-2147483648, 2147483647))], [(0, 0), (1, 1), (0, 0)], [(0, 0)])]
def kx15_s : List fx_D := []
def kx15_x : fx_X := ([], [(31, 9, 2), (34, 9, 3), (43, 9, 5), (81, 9, 6)], [(34, 9, 3, 0), (63, 9, 4, 0), (81, 9, 6, 0)], [], [], [(21, 46, 9, kx8_c), (24, 57, 1000, kx14_c), (43, 46, 9, kx8_c), (84, 46, 9, kx8_c), (87, 50, 1000, kx11_c)])
set_option maxRecDepth 100000 in
theorem kx15_k : fx_chk TX 2 kx15_c 9 kx15_x t_X9_readDigits kx15_a kx15_s 36 = true := by decide +kernel
set_option maxRecDepth 100000 in
theorem kx15 {l : Launch} {E : (Nat → Prop) → State → Prop} {ad : List Nat} {D : va_G} {gs : List Nat} {cy : Nat → ClassId} (h : fxX E D cy) : fx_Met l yX9_readDigits (.code yX9_readDigits cX9_readDigits 2 none :: wsL_law) ({ frames := 1, cells := 0, slots := 0, locals := 21 }) E (gs, TX, cy, fun _ => True) ad D classes kx15_c :=
  fx_sound (x := kx15_x) (tb := t_X9_readDigits) (an := kx15_a) (sp := kx15_s) (rk := 9) 36 h.1 (fun _ _ _ _ _ _ => trivial) (fun _ _ _ _ _ _ => trivial) (ht_tys cy) (by decide) rfl ⟨fx_an, (fx_ac fl_X9_31 (fx_ac fl_X9_34 (fx_ac fl_X9_43 (fx_ac fl_X9_81 (fx_an))))), (fx_ac pl_X9_34 (fx_ac pl_X9_63 (fx_ac pl_X9_81 (fx_an)))), fx_an, fx_an, (fx_ac (ev_V (kx8 h) (by decide) rfl ⟨by decide, by decide⟩ iV_X9_signAt g_X9_46) (fx_ac (ev_S (kx14 h) ⟨by decide, by decide⟩ iS_X9_isDigit g_X9_57) (fx_ac (ev_V (kx8 h) (by decide) rfl ⟨by decide, by decide⟩ iV_X9_signAt g_X9_46) (fx_ac (ev_V (kx8 h) (by decide) rfl ⟨by decide, by decide⟩ iV_X9_signAt g_X9_46) (fx_ac (ev_S (kx11 h) ⟨by decide, by decide⟩ iS_X9_isLetter g_X9_50) (fx_an))))))⟩ d_X9_readDigits kx15_k
-- X9_advance 7
def kx16_c : fx_C := ([.inr (.inr 8)], [], [(none, [.inr (.inr 8)], [])], [(9, 3), (9, 4), (9, 5), (9, 6), (9, 7)])
set_option maxRecDepth 100000 in
set_option maxHeartbeats 4000000 in
theorem kx16 {l : Launch} {E : (Nat → Prop) → State → Prop} {ad : List Nat} {D : va_G} {gs : List Nat} {cy : Nat → ClassId} (h : fxX E D cy) : fx_Met l yX9_advance (.code yX9_advance cX9_advance 2 none :: wsL_law) ({ frames := 4, cells := 0, slots := 0, locals := 91 }) E (gs, TX, cy, fun _ => True) ad D classes kx16_c := by
  intro av w0 sz rt hav hfs hwo0 hI0 hD0
  obtain ⟨hlen, hav1⟩ := hav
  obtain ⟨v0, hv0, k, a, ha, hig, rfl⟩ := hav1 0 _ rfl
  have hg : gs[k]? = some 7 := by
    rcases hig with ⟨_, q⟩ | ⟨q, _⟩
    · exact q
    · exact absurd (show 10000 ≤ 7 from q) (by decide)
  obtain rfl : av = [.ref a] := by
    rcases av with _ | ⟨u, _ | ⟨u2, t⟩⟩
    · simp [kx16_c] at hlen
    · simp at hv0; rw [hv0]
    · simp [kx16_c] at hlen
  obtain ⟨hE, kq, vq, bf, hSG⟩ := id h
  refine Met.ofW (cc := cX9_advance) (maxL := 2) (ret := none) (by decide) rfl ?_
  intro p e s m args below meth c s₁ B hml hv
  obtain ⟨rfl, hsz, hP0, hEs⟩ := hv
  subst hsz
  have hx := B.exec
  have hb := B.bytes
  have hr := B.returns
  have hts0 := atoms_spec (ws := Cond.code yX9_advance cX9_advance 2 none :: wsL_law) B.pre
  have hts : ∀ w ∈ wsL_law, w.before _ s = true := fun w h => hts0 w (List.mem_cons_of_mem _ h)
  have hown : s.vm.findClass RX9 = some m.cls := findClass_of_methodNamed B.named
  have hlocks := B.notSynchronized
  have hA : ∀ q, s.heap.size ≤ q → va_A w0 s.heap.size q := fun q hq => Or.inr hq
  have hV := hSG _ _ hEs
  have hl := lv_entry [.ref a] (n := 2) (Nat.le_of_ble_eq_true rfl)
  rw [lg_entry_eq]
  generalize (lg_sl [.ref a] ++ List.replicate (2 - (lg_sl [.ref a]).length) Slot.unset).toArray = ls at hl ⊢
  have hl : lv_has ls 2 [(0, .ref a)] := hl
  have hh : xS gs ad D cy (va_A w0 s.heap.size) s.heap [(9, 3), (9, 4), (9, 5), (9, 6), (9, 7)] w0 s.heap [] := ⟨w0, hwo0, fx_sm_refl, hP0, hD0.self, va_S.rf⟩
  have fin : ∀ (H : Heap) (locs : List Loc) (ls : Array Slot), xS gs ad D cy (va_A w0 s.heap.size) s.heap [(9, 3), (9, 4), (9, 5), (9, 6), (9, 7)] w0 H locs → W p l e ({ frames := 4, cells := 0, slots := 0, locals := 91 }) s m ([.ref a] : List Value).toArray below meth c H locs 0 0 (MQ below (fx_Qc (gs, TX, cy, fun _ => True) ad D classes kx16_c [.ref a] w0 s.heap.size) ([.ref a] : List Value).toArray s 0 0 (va_A w0 s.heap.size)) (F0 m 91 ls []) := by
    intro H locs ls hh
    obtain ⟨ws, h1, h2, h3, h4, h5⟩ := hh
    exact W.vret hx hb hr (fun t ht hW => ⟨⟨ws, none, rfl, by rw [ht]; exact h3, h1, trivial, h2, _, List.mem_cons_self, rfl, xty1 (by decide) ha hg, ⟨_, rfl⟩⟩, h5.F ht⟩) (fun q hq => h5.2.2 q hq) dX9_advance_91
  refine lv_aload_n hx hb dX9_advance_0 rfl (lv_at hl 0 rfl) ?_
  refine x_cV (As := []) (rest := []) (MD := [(9, 3), (9, 4), (9, 5), (9, 6), (9, 7)]) hx hb hml hts hown hE hEs rfl hA hl (kx10 h) rfl (by decide) ⟨by decide, by decide⟩ rfl iV_X9_skipBlanks g_X9_40 ha hg rfl dX9_advance_1 rfl rfl (Nat.le_of_ble_eq_true rfl) (xty1 (by decide) ha hg) hh (fun rv po ws1 H locs hh hpo hrv => ?_)
  simp only [kx10_c, List.mem_cons, List.not_mem_nil, or_false] at hpo
  obtain rfl := xrn hrv (by subst hpo; rfl)
  refine W.eq (g2 := F0 m 4 ls []) rfl ?_
  refine lv_aload_n hx hb dX9_advance_4 rfl (lv_at hl 0 rfl) ?_
  refine lv_aload_n hx hb dX9_advance_5 rfl (lv_at hl 0 rfl) ?_
  refine x_get hx hb hts hown hE hEs ha hg rfl rfl fl_X9_34 dX9_advance_6 hh (fun z6 => ?_)
  refine x_put hx hb hts hown hE hEs ha hg rfl rfl pl_X9_43 (by decide) dX9_advance_9 hh (fun H locs hh => ?_)
  refine lv_aload_n hx hb dX9_advance_12 rfl (lv_at hl 0 rfl) ?_
  refine lv_aload_n hx hb dX9_advance_13 rfl (lv_at hl 0 rfl) ?_
  refine x_get hx hb hts hown hE hEs ha hg rfl rfl fl_X9_34 dX9_advance_14 hh (fun z14 => ?_)
  refine x_cV (As := [.int z14]) (rest := []) (MD := [(9, 3), (9, 4), (9, 5), (9, 6), (9, 7)]) hx hb hml hts hown hE hEs rfl hA hl (kx8 h) rfl (by decide) ⟨by decide, by decide⟩ rfl iV_X9_signAt g_X9_46 ha hg rfl dX9_advance_17 rfl rfl (Nat.le_of_ble_eq_true rfl) (xty2 (by decide) ha hg) hh (fun rv po ws1 H locs hh hpo hrv => ?_)
  simp only [kx8_c, List.mem_cons, List.not_mem_nil, or_false] at hpo
  obtain ⟨sg, rfl⟩ := xrv hrv (by rcases hpo with rfl | rfl <;> exact ⟨_, rfl⟩)
  refine W.eq (g2 := F0 m 20 ls [.int sg]) rfl ?_
  refine lv_istore_n (lv' := [(1, .int sg), (0, .ref a)]) hx hb dX9_advance_20 rfl hl (by decide) rfl (fun ls hl => ?_)
  refine lv_iload_n hx hb dX9_advance_21 rfl (lv_at hl 0 rfl) ?_
  refine x_cS (As := [.int sg]) (rest := []) (MD := [(9, 3), (9, 4), (9, 5), (9, 6), (9, 7)]) hx hb hml hts hown hE hEs rfl hA hl (kx11 h) rfl (by decide) ⟨by decide, by decide⟩ iS_X9_isLetter g_X9_50 dX9_advance_22 rfl rfl (Nat.le_of_ble_eq_true rfl) xty0 hh (fun rv po ws1 H locs hh hpo hrv => ?_)
  simp only [kx11_c, List.mem_cons, List.not_mem_nil, or_false] at hpo
  obtain ⟨b1, rfl⟩ := xrv hrv (by rcases hpo with rfl | rfl <;> exact ⟨_, rfl⟩)
  refine W.eq (g2 := F0 m 25 ls [.int b1]) rfl ?_
  refine lv_if_eq (tgt := 35) hx hb dX9_advance_25 (by decide) (fun _ => ?_) (fun _ => ?_)
  · refine lv_iload_n hx hb dX9_advance_35 rfl (lv_at hl 0 rfl) ?_
    refine x_cS (As := [.int sg]) (rest := []) (MD := [(9, 3), (9, 4), (9, 5), (9, 6), (9, 7)]) hx hb hml hts hown hE hEs rfl hA hl (kx14 h) rfl (by decide) ⟨by decide, by decide⟩ iS_X9_isDigit g_X9_57 dX9_advance_36 rfl rfl (Nat.le_of_ble_eq_true rfl) xty0 hh (fun rv po ws1 H locs hh hpo hrv => ?_)
    simp only [kx14_c, List.mem_cons, List.not_mem_nil, or_false] at hpo
    obtain ⟨b2, rfl⟩ := xrv hrv (by rcases hpo with rfl | rfl <;> exact ⟨_, rfl⟩)
    refine W.eq (g2 := F0 m 39 ls [.int b2]) rfl ?_
    refine lv_if_eq (tgt := 49) hx hb dX9_advance_39 (by decide) (fun _ => ?_) (fun _ => ?_)
    · refine lv_iload_n hx hb dX9_advance_49 rfl (lv_at hl 0 rfl) ?_
      refine lv_iconst (v := -1) hx hb dX9_advance_50 (by decide +kernel) ?_
      refine lv_icmp_ne (tgt := 62) hx hb dX9_advance_51 (by decide) (fun _ => ?_) (fun _ => ?_)
      · refine lv_aload_n hx hb dX9_advance_62 rfl (lv_at hl 1 rfl) ?_
        refine lv_dup hx hb dX9_advance_63 rfl ?_
        refine x_get hx hb hts hown hE hEs ha hg rfl rfl fl_X9_34 dX9_advance_64 hh (fun z64 => ?_)
        refine lv_iconst (v := 1) hx hb dX9_advance_67 (by decide +kernel) ?_
        refine lv_iadd hx hb dX9_advance_68 ?_
        refine lv_topi (fun nz _ => ?_)
        refine x_put hx hb hts hown hE hEs ha hg rfl rfl pl_X9_34 (by decide) dX9_advance_69 hh (fun H locs hh => ?_)
        refine lv_aload_n hx hb dX9_advance_72 rfl (lv_at hl 1 rfl) ?_
        refine va_ldcS hx hb hown hV.2.1 dX9_advance_73 ?_
        refine lv_iload_n hx hb dX9_advance_75 rfl (lv_at hl 0 rfl) ?_
        refine lv_i2c hx hb dX9_advance_76 rfl ?_
        refine lv_topi (fun ch _ => ?_)
        obtain ⟨ws9, w1, w2, w3, w4, w5⟩ := id hh
        refine vp_callSi (W.runV (As := [.int ch]) (rest := [.ref a]) ⟨hx, hb, hml, hown, hts⟩ (gJ_indexOf l kq vq bf ch) (cwV 1 hts (gdV m_382 m_383 m_384 m_68 m_385) rfl rfl rfl (by decide +kernel) ⟨Nat.le_of_ble_eq_true rfl, Nat.le_of_ble_eq_true rfl⟩) ⟨fun a U g mk q => by obtain ⟨q0, qV⟩ := q; exact ⟨q0, qV.call⟩, hV.recv (fun q q1 q2 => w5.2.1 q q1 q2), fun U hU hW => ⟨rfl, hV.step hW (fun q q1 q2 => by rw [hU]; exact w5.2.1 q q1 q2) (fun _ h => h.elim)⟩⟩ rfl rfl hl.1 rfl (lv_room (Nat.le_of_ble_eq_true rfl)) dX9_advance_77 ⟨Nat.le_of_ble_eq_true rfl, Nat.le_of_ble_eq_true rfl⟩) (fun r _ => ?_)
        refine lv_if_lt (tgt := 87) hx hb dX9_advance_80 (by decide) (fun _ => ?_) (fun _ => ?_)
        · refine lv_iconst (v := 1) hx hb dX9_advance_87 (by decide +kernel) ?_
          refine x_put hx hb hts hown hE hEs ha hg rfl rfl pl_X9_63 (by decide) dX9_advance_88 hh (fun H locs hh => ?_)
          exact fin H locs ls hh
        refine lv_iload_n hx hb dX9_advance_83 rfl (lv_at hl 0 rfl) ?_
        refine lv_goto (tgt := 88) hx hb dX9_advance_84 (by decide) ?_
        refine x_put hx hb hts hown hE hEs ha hg rfl rfl pl_X9_63 (by decide) dX9_advance_88 hh (fun H locs hh => ?_)
        exact fin H locs ls hh
      refine lv_aload_n hx hb dX9_advance_54 rfl (lv_at hl 1 rfl) ?_
      refine lv_iconst (v := -1) hx hb dX9_advance_55 (by decide +kernel) ?_
      refine x_put hx hb hts hown hE hEs ha hg rfl rfl pl_X9_63 (by decide) dX9_advance_56 hh (fun H locs hh => ?_)
      refine lv_goto (tgt := 91) hx hb dX9_advance_59 (by decide) ?_
      exact fin H locs ls hh
    refine lv_aload_n hx hb dX9_advance_42 rfl (lv_at hl 1 rfl) ?_
    refine x_cV (As := []) (rest := []) (MD := [(9, 3), (9, 4), (9, 5), (9, 6), (9, 7)]) hx hb hml hts hown hE hEs rfl hA hl (kx15 h) rfl (by decide) ⟨by decide, by decide⟩ rfl iV_X9_readDigits g_X9_60 ha hg rfl dX9_advance_43 rfl rfl (Nat.le_of_ble_eq_true rfl) (xty1 (by decide) ha hg) hh (fun rv po ws1 H locs hh hpo hrv => ?_)
    simp only [kx15_c, List.mem_cons, List.not_mem_nil, or_false] at hpo
    obtain rfl := xrn hrv (by subst hpo; rfl)
    refine W.eq (g2 := F0 m 46 ls []) rfl ?_
    refine lv_goto (tgt := 91) hx hb dX9_advance_46 (by decide) ?_
    exact fin H locs ls hh
  refine lv_aload_n hx hb dX9_advance_28 rfl (lv_at hl 1 rfl) ?_
  refine x_cV (As := []) (rest := []) (MD := [(9, 3), (9, 4), (9, 5), (9, 6), (9, 7)]) hx hb hml hts hown hE hEs rfl hA hl (kx13 h) rfl (by decide) ⟨by decide, by decide⟩ rfl iV_X9_readLetters g_X9_54 ha hg rfl dX9_advance_29 rfl rfl (Nat.le_of_ble_eq_true rfl) (xty1 (by decide) ha hg) hh (fun rv po ws1 H locs hh hpo hrv => ?_)
  simp only [kx13_c, List.mem_cons, List.not_mem_nil, or_false] at hpo
  obtain rfl := xrn hrv (by subst hpo; rfl)
  refine W.eq (g2 := F0 m 32 ls []) rfl ?_
  refine lv_goto (tgt := 91) hx hb dX9_advance_32 (by decide) ?_
  exact fin H locs ls hh
-- X9_rewind 7
def kx17_c : fx_C := ([.inr (.inr 8)], [], [(none, [.inr (.inr 8)], [])], [(9, 3), (9, 4), (9, 5), (9, 6), (9, 7)])
def kx17_a : List fx_N := []
def kx17_s : List fx_D := []
def kx17_x : fx_X := ([], [], [(34, 9, 3, 0)], [], [], [(6, 37, 9, kx16_c)])
set_option maxRecDepth 100000 in
theorem kx17_k : fx_chk TX 1 kx17_c 9 kx17_x t_X9_rewind kx17_a kx17_s 8 = true := by decide +kernel
set_option maxRecDepth 100000 in
theorem kx17 {l : Launch} {E : (Nat → Prop) → State → Prop} {ad : List Nat} {D : va_G} {gs : List Nat} {cy : Nat → ClassId} (h : fxX E D cy) : fx_Met l yX9_rewind (.code yX9_rewind cX9_rewind 1 none :: wsL_law) ({ frames := 5, cells := 0, slots := 0, locals := 112 }) E (gs, TX, cy, fun _ => True) ad D classes kx17_c :=
  fx_sound (x := kx17_x) (tb := t_X9_rewind) (an := kx17_a) (sp := kx17_s) (rk := 9) 8 h.1 (fun _ _ _ _ _ _ => trivial) (fun _ _ _ _ _ _ => trivial) (ht_tys cy) (by decide) rfl ⟨fx_an, fx_an, (fx_ac pl_X9_34 (fx_an)), fx_an, fx_an, (fx_ac (ev_V (kx16 h) (by decide) rfl ⟨by decide, by decide⟩ iV_X9_advance g_X9_37) (fx_an))⟩ d_X9_rewind kx17_k
-- X6_fail 1 i i
def kx18_c : fx_C := ([.inr (.inr 2), .inl (1, 5), .inl (-2147483648, 2147483647)], [], [(some (.inl (0, 0)), [.inr (.inr 2), .inl (1, 5), .inl (-2147483648, 2147483647)], [((0, 2), .inl (1, 5))])], [(6, 2), (6, 3)])
def kx18_a : List fx_N := []
def kx18_s : List fx_D := []
def kx18_x : fx_X := ([], [], [(25, 6, 2, 0), (29, 6, 3, 0)], [], [], [])
set_option maxRecDepth 100000 in
theorem kx18_k : fx_chk TX 3 kx18_c 3 kx18_x t_X6_fail kx18_a kx18_s 10 = true := by decide +kernel
set_option maxRecDepth 100000 in
theorem kx18 {l : Launch} {E : (Nat → Prop) → State → Prop} {ad : List Nat} {D : va_G} {gs : List Nat} {cy : Nat → ClassId} (h : fxX E D cy) : fx_Met l yX6_fail (.code yX6_fail cX6_fail 3 (some .boolean) :: wsL_law) ({ frames := 0, cells := 0, slots := 0, locals := 0 }) E (gs, TX, cy, fun _ => True) ad D classes kx18_c :=
  fx_sound (x := kx18_x) (tb := t_X6_fail) (an := kx18_a) (sp := kx18_s) (rk := 3) 10 h.1 (fun _ _ _ _ _ _ => trivial) (fun _ _ _ _ _ _ => trivial) (ht_tys cy) (by decide) rfl ⟨fx_an, fx_an, (fx_ac pl_X6_25 (fx_ac pl_X6_29 (fx_an))), fx_an, fx_an, fx_an⟩ d_X6_fail kx18_k
-- X6_refuse 1
def kx19_c : fx_C := ([.inr (.inr 2)], [], [(some (.inl (0, 0)), [.inr (.inr 2)], [((0, 2), .inl (1, 5))])], [(6, 2), (6, 3)])
def kx19_a : List fx_N := []
def kx19_s : List fx_D := []
def kx19_x : fx_X := ([], [(12, 6, 0), (38, 9, 4), (82, 9, 5)], [], [], [], [(24, 85, 6, kx18_c)])
set_option maxRecDepth 100000 in
theorem kx19_k : fx_chk TX 1 kx19_c 3 kx19_x t_X6_refuse kx19_a kx19_s 15 = true := by decide +kernel
set_option maxRecDepth 100000 in
theorem kx19 {l : Launch} {E : (Nat → Prop) → State → Prop} {ad : List Nat} {D : va_G} {gs : List Nat} {cy : Nat → ClassId} (h : fxX E D cy) : fx_Met l yX6_refuse (.code yX6_refuse cX6_refuse 1 (some .boolean) :: wsL_law) ({ frames := 1, cells := 0, slots := 0, locals := 22 }) E (gs, TX, cy, fun _ => True) ad D classes kx19_c :=
  fx_sound (x := kx19_x) (tb := t_X6_refuse) (an := kx19_a) (sp := kx19_s) (rk := 3) 15 h.1 (fun _ _ _ _ _ _ => trivial) (fun _ _ _ _ _ _ => trivial) (ht_tys cy) (by decide) rfl ⟨fx_an, (fx_ac fl_X6_12 (fx_ac fl_X6_38 (fx_ac fl_X6_82 (fx_an)))), fx_an, fx_an, fx_an, (fx_ac (ev_V (kx18 h) (by decide) rfl ⟨by decide, by decide⟩ iV_X6_fail g_X6_85) (fx_an))⟩ d_X6_refuse kx19_k
-- X6_canReadNumber 1 i i
def kx20_c : fx_C := ([.inr (.inr 2), .inl (9, 999), .inl (-2147483648, 2147483647)], [], [(some (.inl (0, 0)), [.inr (.inr 2), .inl (9, 999), .inl (-2147483648, 2147483647)], [((0, 2), .inl (1, 5))]), (some (.inl (1, 1)), [.inr (.inr 2), .inl (9, 999), .inl (-2147483648, 2147483647)], [((0, 0), .inr (.inr 8)), ((3, 4), .inl (48, 48)), ((3, 6), .inl (-2147483648, 999))])], [(6, 2), (6, 3)])
def kx20_a : List fx_N := []
def kx20_s : List fx_D := []
def kx20_x : fx_X := ([], [(12, 6, 0), (38, 9, 4), (96, 9, 6)], [], [], [], [(13, 65, 6, kx19_c), (31, 85, 6, kx18_c)])
set_option maxRecDepth 100000 in
theorem kx20_k : fx_chk TX 3 kx20_c 3 kx20_x t_X6_canReadNumber kx20_a kx20_s 19 = true := by decide +kernel
set_option maxRecDepth 100000 in
theorem kx20 {l : Launch} {E : (Nat → Prop) → State → Prop} {ad : List Nat} {D : va_G} {gs : List Nat} {cy : Nat → ClassId} (h : fxX E D cy) : fx_Met l yX6_canReadNumber (.code yX6_canReadNumber cX6_canReadNumber 3 (some .boolean) :: wsL_law) ({ frames := 2, cells := 0, slots := 0, locals := 42 }) E (gs, TX, cy, fun _ => True) ad D classes kx20_c :=
  fx_sound (x := kx20_x) (tb := t_X6_canReadNumber) (an := kx20_a) (sp := kx20_s) (rk := 3) 19 h.1 (fun _ _ _ _ _ _ => trivial) (fun _ _ _ _ _ _ => trivial) (ht_tys cy) (by decide) rfl ⟨fx_an, (fx_ac fl_X6_12 (fx_ac fl_X6_38 (fx_ac fl_X6_96 (fx_an)))), fx_an, fx_an, fx_an, (fx_ac (ev_V (kx19 h) (by decide) rfl ⟨by decide, by decide⟩ iV_X6_refuse g_X6_65) (fx_ac (ev_V (kx18 h) (by decide) rfl ⟨by decide, by decide⟩ iV_X6_fail g_X6_85) (fx_an)))⟩ d_X6_canReadNumber kx20_k
-- X6_pass 1 i
def kx21_c : fx_C := ([.inr (.inr 2), .inl (41, 511)], [], [(some (.inl (0, 0)), [.inr (.inr 2), .inl (41, 511)], [((0, 2), .inl (1, 5))]), (some (.inl (1, 1)), [.inr (.inr 2), .inl (41, 511)], [])], [(6, 2), (6, 3), (9, 3), (9, 4), (9, 5), (9, 6), (9, 7)])
def kx21_a : List fx_N := []
def kx21_s : List fx_D := []
def kx21_x : fx_X := ([], [(12, 6, 0), (38, 9, 4)], [], [], [], [(12, 65, 6, kx19_c), (20, 71, 9, kx16_c)])
set_option maxRecDepth 100000 in
theorem kx21_k : fx_chk TX 2 kx21_c 3 kx21_x t_X6_pass kx21_a kx21_s 12 = true := by decide +kernel
set_option maxRecDepth 100000 in
theorem kx21 {l : Launch} {E : (Nat → Prop) → State → Prop} {ad : List Nat} {D : va_G} {gs : List Nat} {cy : Nat → ClassId} (h : fxX E D cy) : fx_Met l yX6_pass (.code yX6_pass cX6_pass 2 (some .boolean) :: wsL_law) ({ frames := 5, cells := 0, slots := 0, locals := 112 }) E (gs, TX, cy, fun _ => True) ad D classes kx21_c :=
  fx_sound (x := kx21_x) (tb := t_X6_pass) (an := kx21_a) (sp := kx21_s) (rk := 3) 12 h.1 (fun _ _ _ _ _ _ => trivial) (fun _ _ _ _ _ _ => trivial) (ht_tys cy) (by decide) rfl ⟨fx_an, (fx_ac fl_X6_12 (fx_ac fl_X6_38 (fx_an))), fx_an, fx_an, fx_an, (fx_ac (ev_V (kx19 h) (by decide) rfl ⟨by decide, by decide⟩ iV_X6_refuse g_X6_65) (fx_ac (ev_V (kx16 h) (by decide) rfl ⟨by decide, by decide⟩ iV_X9_advance g_X6_71) (fx_an)))⟩ d_X6_pass kx21_k
-- X6_readDrawLine 1
def kx22_c : fx_C := ([.inr (.inr 2)], [], [(some (.inl (0, 0)), [.inr (.inr 2)], [((0, 2), .inl (1, 5))]), (some (.inl (1, 1)), [.inr (.inr 2)], [((0, 1), .inr (.inr 9)), ((1, 10), .inl (-2147483648, 999)), ((1, 11), .inl (1, 1))])], [(6, 2), (6, 3), (9, 3), (9, 4), (9, 5), (9, 6), (9, 7), (10, 10), (10, 11)])
def kx22_a : List fx_N := []
def kx22_s : List fx_D := []
def kx22_x : fx_X := ([], [(12, 6, 0), (21, 6, 1), (82, 9, 5), (96, 9, 6), (129, 10, 11)], [(129, 10, 11, 3), (132, 10, 10, 0)], [], [], [(11, 65, 6, kx19_c), (19, 71, 9, kx16_c), (33, 93, 6, kx20_c), (67, 71, 9, kx16_c), (73, 89, 6, kx21_c)])
set_option maxRecDepth 100000 in
theorem kx22_k : fx_chk TX 1 kx22_c 3 kx22_x t_X6_readDrawLine kx22_a kx22_s 33 = true := by decide +kernel
set_option maxRecDepth 100000 in
theorem kx22 {l : Launch} {E : (Nat → Prop) → State → Prop} {ad : List Nat} {D : va_G} {gs : List Nat} {cy : Nat → ClassId} (h : fxX E D cy) : fx_Met l yX6_readDrawLine (.code yX6_readDrawLine cX6_readDrawLine 1 (some .boolean) :: wsL_law) ({ frames := 6, cells := 0, slots := 0, locals := 133 }) E (gs, TX, cy, fun _ => True) ad D classes kx22_c :=
  fx_sound (x := kx22_x) (tb := t_X6_readDrawLine) (an := kx22_a) (sp := kx22_s) (rk := 3) 33 h.1 (fun _ _ _ _ _ _ => trivial) (fun _ _ _ _ _ _ => trivial) (ht_tys cy) (by decide) rfl ⟨fx_an, (fx_ac fl_X6_12 (fx_ac fl_X6_21 (fx_ac fl_X6_82 (fx_ac fl_X6_96 (fx_ac fl_X6_129 (fx_an)))))), (fx_ac pl_X6_129 (fx_ac pl_X6_132 (fx_an))), fx_an, fx_an, (fx_ac (ev_V (kx19 h) (by decide) rfl ⟨by decide, by decide⟩ iV_X6_refuse g_X6_65) (fx_ac (ev_V (kx16 h) (by decide) rfl ⟨by decide, by decide⟩ iV_X9_advance g_X6_71) (fx_ac (ev_V (kx20 h) (by decide) rfl ⟨by decide, by decide⟩ iV_X6_canReadNumber g_X6_93) (fx_ac (ev_V (kx16 h) (by decide) rfl ⟨by decide, by decide⟩ iV_X9_advance g_X6_71) (fx_ac (ev_V (kx21 h) (by decide) rfl ⟨by decide, by decide⟩ iV_X6_pass g_X6_89) (fx_an))))))⟩ d_X6_readDrawLine kx22_k
-- X6_readNot 1 i ('c', 7)
def kx23_c : fx_C := ([.inr (.inr 2), .inl (7, 7)], [], [(some (.inl (0, 0)), [.inr (.inr 2), .inl (7, 7)], [((0, 2), .inl (1, 5))])], [(6, 2), (6, 3)])
def kx23_a : List fx_N := []
def kx23_s : List fx_D := []
def kx23_x : fx_X := ([], [], [], [], [], [(7, 65, 6, kx19_c)])
set_option maxRecDepth 100000 in
theorem kx23_k : fx_chk TX 2 kx23_c 3 kx23_x t_X6_readNot kx23_a kx23_s 8 = true := by decide +kernel
set_option maxRecDepth 100000 in
theorem kx23 {l : Launch} {E : (Nat → Prop) → State → Prop} {ad : List Nat} {D : va_G} {gs : List Nat} {cy : Nat → ClassId} (h : fxX E D cy) : fx_Met l yX6_readNot (.code yX6_readNot cX6_readNot 2 (some .boolean) :: wsL_law) ({ frames := 2, cells := 0, slots := 0, locals := 42 }) E (gs, TX, cy, fun _ => True) ad D classes kx23_c :=
  fx_sound (x := kx23_x) (tb := t_X6_readNot) (an := kx23_a) (sp := kx23_s) (rk := 3) 8 h.1 (fun _ _ _ _ _ _ => trivial) (fun _ _ _ _ _ _ => trivial) (ht_tys cy) (by decide) rfl ⟨fx_an, fx_an, fx_an, fx_an, fx_an, (fx_ac (ev_V (kx19 h) (by decide) rfl ⟨by decide, by decide⟩ iV_X6_refuse g_X6_65) (fx_an))⟩ d_X6_readNot kx23_k
-- X6_readBracket 1 i ('c', 7)
def kx24_c : fx_C := ([.inr (.inr 2), .inl (7, 7)], [], [(some (.inl (0, 0)), [.inr (.inr 2), .inl (7, 7)], [((0, 2), .inl (1, 5))])], [(6, 2), (6, 3)])
def kx24_a : List fx_N := []
def kx24_s : List fx_D := []
def kx24_x : fx_X := ([], [], [], [], [], [(7, 65, 6, kx19_c)])
set_option maxRecDepth 100000 in
theorem kx24_k : fx_chk TX 2 kx24_c 3 kx24_x t_X6_readBracket kx24_a kx24_s 8 = true := by decide +kernel
set_option maxRecDepth 100000 in
theorem kx24 {l : Launch} {E : (Nat → Prop) → State → Prop} {ad : List Nat} {D : va_G} {gs : List Nat} {cy : Nat → ClassId} (h : fxX E D cy) : fx_Met l yX6_readBracket (.code yX6_readBracket cX6_readBracket 2 (some .boolean) :: wsL_law) ({ frames := 2, cells := 0, slots := 0, locals := 42 }) E (gs, TX, cy, fun _ => True) ad D classes kx24_c :=
  fx_sound (x := kx24_x) (tb := t_X6_readBracket) (an := kx24_a) (sp := kx24_s) (rk := 3) 8 h.1 (fun _ _ _ _ _ _ => trivial) (fun _ _ _ _ _ _ => trivial) (ht_tys cy) (by decide) rfl ⟨fx_an, fx_an, fx_an, fx_an, fx_an, (fx_ac (ev_V (kx19 h) (by decide) rfl ⟨by decide, by decide⟩ iV_X6_refuse g_X6_65) (fx_an))⟩ d_X6_readBracket kx24_k
-- X9_isKnownKey i
def kx25_c : fx_C := ([.inl (-2147483648, 2147483647)], [], [(some (.inl (1, 1)), [.inl (265, 270)], []), (some (.inl (0, 0)), [.inl (-2147483648, 2147483647)], [])], [])
def kx25_a : List fx_N := []
def kx25_s : List fx_D := []
def kx25_x : fx_X := ([], [], [], [], [], [])
set_option maxRecDepth 100000 in
theorem kx25_k : fx_chk TX 1 kx25_c 3 kx25_x t_X9_isKnownKey kx25_a kx25_s 11 = true := by decide +kernel
set_option maxRecDepth 100000 in
theorem kx25 {l : Launch} {E : (Nat → Prop) → State → Prop} {ad : List Nat} {D : va_G} {gs : List Nat} {cy : Nat → ClassId} (h : fxX E D cy) : fx_Met l yX9_isKnownKey (.code yX9_isKnownKey cX9_isKnownKey 1 (some .boolean) :: wsL_law) ({ frames := 0, cells := 0, slots := 0, locals := 0 }) E (gs, TX, cy, fun _ => True) ad D classes kx25_c :=
  fx_sound (x := kx25_x) (tb := t_X9_isKnownKey) (an := kx25_a) (sp := kx25_s) (rk := 3) 11 h.1 (fun _ _ _ _ _ _ => trivial) (fun _ _ _ _ _ _ => trivial) (ht_tys cy) (by decide) rfl ⟨fx_an, fx_an, fx_an, fx_an, fx_an, fx_an⟩ d_X9_isKnownKey kx25_k
-- X0_add 9 i i
def kx26_c : fx_C := ([.inr (.inr 10), .inl (31, 270), .inl (-2147483648, 2147483647)], [], [(none, [.inr (.inr 10), .inl (31, 270), .inl (-2147483648, 2147483647)], [((0, 4), .inl (1, 512))])], [(0, 4), (1000, 17), (1000, 18)])
def kx26_a : List fx_N := []
def kx26_s : List fx_D := []
def kx26_x : fx_X := ([], [(9, 0, 0), (13, 0, 1), (24, 0, 4)], [(24, 0, 4, 0)], [], [], [])
set_option maxRecDepth 100000 in
theorem kx26_k : fx_chk TX 3 kx26_c 9 kx26_x t_X0_add kx26_a kx26_s 33 = true := by decide +kernel
set_option maxRecDepth 100000 in
theorem kx26 {l : Launch} {E : (Nat → Prop) → State → Prop} {ad : List Nat} {D : va_G} {gs : List Nat} {cy : Nat → ClassId} (h : fxX E D cy) : fx_Met l yX0_add (.code yX0_add cX0_add 3 none :: wsL_law) ({ frames := 0, cells := 0, slots := 0, locals := 0 }) E (gs, TX, cy, fun _ => True) ad D classes kx26_c :=
  fx_sound (x := kx26_x) (tb := t_X0_add) (an := kx26_a) (sp := kx26_s) (rk := 9) 33 h.1 (fun _ _ _ _ _ _ => trivial) (fun _ _ _ _ _ _ => trivial) (ht_tys cy) (by decide) rfl ⟨fx_an, (fx_ac fl_X0_9 (fx_ac fl_X0_13 (fx_ac fl_X0_24 (fx_an)))), (fx_ac pl_X0_24 (fx_an)), fx_an, fx_an, fx_an⟩ d_X0_add kx26_k
-- X6_readUnit 1 i ('c', 7)
def kx27_c : fx_C := ([.inr (.inr 2), .inl (7, 7)], [], [(some (.inl (0, 0)), [.inr (.inr 2), .inl (7, 7)], [((0, 2), .inl (1, 5))]), (some (.inl (1, 1)), [.inr (.inr 2), .inl (7, 7)], [((0, 1), .inr (.inr 9)), ((2, 6), .inr (.inr 10)), ((3, 4), .inl (1, 512)), ((3, 6), .inl (-2147483647, 30))])], [(0, 4), (0, 6), (6, 2), (6, 3), (9, 3), (9, 4), (9, 5), (9, 6), (9, 7), (1000, 17), (1000, 18)])
def kx27_a : List fx_N := []
def kx27_s : List fx_D := []
def kx27_x : fx_X := ([], [(12, 6, 0), (21, 6, 1), (38, 9, 4), (96, 9, 6), (116, 10, 6), (165, 0, 6)], [(165, 0, 6, 0)], [], [], [(24, 65, 6, kx19_c), (36, 168, 6, kx24_c), (47, 171, 1000, kx25_c), (54, 65, 6, kx19_c), (89, 144, 0, kx26_c), (96, 71, 9, kx16_c)])
set_option maxRecDepth 100000 in
theorem kx27_k : fx_chk TX 3 kx27_c 3 kx27_x t_X6_readUnit kx27_a kx27_s 42 = true := by decide +kernel
set_option maxRecDepth 100000 in
theorem kx27 {l : Launch} {E : (Nat → Prop) → State → Prop} {ad : List Nat} {D : va_G} {gs : List Nat} {cy : Nat → ClassId} (h : fxX E D cy) : fx_Met l yX6_readUnit (.code yX6_readUnit cX6_readUnit 3 (some .boolean) :: wsL_law) ({ frames := 5, cells := 0, slots := 0, locals := 112 }) E (gs, TX, cy, fun _ => True) ad D classes kx27_c :=
  fx_sound (x := kx27_x) (tb := t_X6_readUnit) (an := kx27_a) (sp := kx27_s) (rk := 3) 42 h.1 (fun _ _ _ _ _ _ => trivial) (fun _ _ _ _ _ _ => trivial) (ht_tys cy) (by decide) rfl ⟨fx_an, (fx_ac fl_X6_12 (fx_ac fl_X6_21 (fx_ac fl_X6_38 (fx_ac fl_X6_96 (fx_ac fl_X6_116 (fx_ac fl_X6_165 (fx_an))))))), (fx_ac pl_X6_165 (fx_an)), fx_an, fx_an, (fx_ac (ev_V (kx19 h) (by decide) rfl ⟨by decide, by decide⟩ iV_X6_refuse g_X6_65) (fx_ac (ev_V (kx24 h) (by decide) rfl ⟨by decide, by decide⟩ iV_X6_readBracket g_X6_168) (fx_ac (ev_S (kx25 h) ⟨by decide, by decide⟩ iS_X9_isKnownKey g_X6_171) (fx_ac (ev_V (kx19 h) (by decide) rfl ⟨by decide, by decide⟩ iV_X6_refuse g_X6_65) (fx_ac (ev_V (kx26 h) (by decide) rfl ⟨by decide, by decide⟩ iV_X0_add g_X6_144) (fx_ac (ev_V (kx16 h) (by decide) rfl ⟨by decide, by decide⟩ iV_X9_advance g_X6_71) (fx_an)))))))⟩ d_X6_readUnit kx27_k
-- X6_isTermSign i
def kx28_c : fx_C := ([.inl (-2147483648, 2147483647)], [], [(some (.inl (1, 1)), [.inl (37, 47)], []), (some (.inl (0, 0)), [.inl (-2147483648, 2147483647)], [])], [])
def kx28_a : List fx_N := []
def kx28_s : List fx_D := []
def kx28_x : fx_X := ([], [], [], [], [], [])
set_option maxRecDepth 100000 in
theorem kx28_k : fx_chk TX 1 kx28_c 3 kx28_x t_X6_isTermSign kx28_a kx28_s 14 = true := by decide +kernel
set_option maxRecDepth 100000 in
theorem kx28 {l : Launch} {E : (Nat → Prop) → State → Prop} {ad : List Nat} {D : va_G} {gs : List Nat} {cy : Nat → ClassId} (h : fxX E D cy) : fx_Met l yX6_isTermSign (.code yX6_isTermSign cX6_isTermSign 1 (some .boolean) :: wsL_law) ({ frames := 0, cells := 0, slots := 0, locals := 0 }) E (gs, TX, cy, fun _ => True) ad D classes kx28_c :=
  fx_sound (x := kx28_x) (tb := t_X6_isTermSign) (an := kx28_a) (sp := kx28_s) (rk := 3) 14 h.1 (fun _ _ _ _ _ _ => trivial) (fun _ _ _ _ _ _ => trivial) (ht_tys cy) (by decide) rfl ⟨fx_an, fx_an, fx_an, fx_an, fx_an, fx_an⟩ d_X6_isTermSign kx28_k
-- X6_readTerm 1 i ('c', 7)
def kx29_c : fx_C := ([.inr (.inr 2), .inl (7, 7)], [], [(some (.inl (0, 0)), [.inr (.inr 2), .inl (7, 7)], [((0, 2), .inl (1, 5))]), (some (.inl (1, 1)), [.inr (.inr 2), .inl (7, 7)], [((0, 1), .inr (.inr 9)), ((2, 6), .inr (.inr 10)), ((3, 4), .inl (1, 512)), ((3, 6), .inl (-2147483647, 30))])], [(0, 4), (0, 6), (6, 2), (6, 3), (9, 3), (9, 4), (9, 5), (9, 6), (9, 7), (1000, 17), (1000, 18)])
def kx29_a : List fx_N := [(12, [(0, .inr (.inr 2)), (1, .inl (7, 7)), (2, .inl (0, 1600))], [((0, 1), .inr (.inr 9)), ((3, 6), .inr (.inr 10)), ((4, 4), .inl (1, 512)), ((4, 6), .inl (-2147483647, 30))], [(0, 0), (1, 2), (0, 0)], [(0, 0), (1, 1)])]
def kx29_s : List fx_D := []
def kx29_x : fx_X := ([], [(12, 6, 0), (21, 6, 1), (38, 9, 4), (116, 10, 6)], [], [], [], [(2, 159, 6, kx27_c), (26, 162, 1000, kx28_c), (44, 71, 9, kx16_c), (49, 159, 6, kx27_c), (66, 144, 0, kx26_c)])
set_option maxRecDepth 100000 in
theorem kx29_k : fx_chk TX 4 kx29_c 3 kx29_x t_X6_readTerm kx29_a kx29_s 30 = true := by decide +kernel
set_option maxRecDepth 100000 in
theorem kx29 {l : Launch} {E : (Nat → Prop) → State → Prop} {ad : List Nat} {D : va_G} {gs : List Nat} {cy : Nat → ClassId} (h : fxX E D cy) : fx_Met l yX6_readTerm (.code yX6_readTerm cX6_readTerm 4 (some .boolean) :: wsL_law) ({ frames := 6, cells := 0, slots := 0, locals := 134 }) E (gs, TX, cy, fun _ => True) ad D classes kx29_c :=
  fx_sound (x := kx29_x) (tb := t_X6_readTerm) (an := kx29_a) (sp := kx29_s) (rk := 3) 30 h.1 (fun _ _ _ _ _ _ => trivial) (fun _ _ _ _ _ _ => trivial) (ht_tys cy) (by decide) rfl ⟨fx_an, (fx_ac fl_X6_12 (fx_ac fl_X6_21 (fx_ac fl_X6_38 (fx_ac fl_X6_116 (fx_an))))), fx_an, fx_an, fx_an, (fx_ac (ev_V (kx27 h) (by decide) rfl ⟨by decide, by decide⟩ iV_X6_readUnit g_X6_159) (fx_ac (ev_S (kx28 h) ⟨by decide, by decide⟩ iS_X6_isTermSign g_X6_162) (fx_ac (ev_V (kx16 h) (by decide) rfl ⟨by decide, by decide⟩ iV_X9_advance g_X6_71) (fx_ac (ev_V (kx27 h) (by decide) rfl ⟨by decide, by decide⟩ iV_X6_readUnit g_X6_159) (fx_ac (ev_V (kx26 h) (by decide) rfl ⟨by decide, by decide⟩ iV_X0_add g_X6_144) (fx_an))))))⟩ d_X6_readTerm kx29_k
-- X6_readSum 1 i ('c', 7)
def kx30_c : fx_C := ([.inr (.inr 2), .inl (7, 7)], [], [(some (.inl (0, 0)), [.inr (.inr 2), .inl (7, 7)], [((0, 2), .inl (1, 5))]), (some (.inl (1, 1)), [.inr (.inr 2), .inl (7, 7)], [((0, 1), .inr (.inr 9)), ((2, 6), .inr (.inr 10)), ((3, 4), .inl (1, 512)), ((3, 6), .inl (-2147483647, 30))])], [(0, 4), (0, 6), (6, 2), (6, 3), (9, 3), (9, 4), (9, 5), (9, 6), (9, 7), (1000, 17), (1000, 18)])
def kx30_a : List fx_N := [(12, [(0, .inr (.inr 2)), (1, .inl (7, 7)), (2, .inl (0, 1600))], [((0, 1), .inr (.inr 9)), ((3, 6), .inr (.inr 10)), ((4, 4), .inl (1, 512)), ((4, 6), .inl (-2147483647, 30))], [(0, 0), (1, 2), (0, 0)], [(0, 0), (1, 1)])]
def kx30_s : List fx_D := []
def kx30_x : fx_X := ([], [(12, 6, 0), (21, 6, 1), (38, 9, 4), (116, 10, 6)], [], [], [], [(2, 156, 6, kx29_c), (55, 71, 9, kx16_c), (60, 156, 6, kx29_c), (77, 144, 0, kx26_c)])
set_option maxRecDepth 100000 in
theorem kx30_k : fx_chk TX 4 kx30_c 3 kx30_x t_X6_readSum kx30_a kx30_s 35 = true := by decide +kernel
set_option maxRecDepth 100000 in
theorem kx30 {l : Launch} {E : (Nat → Prop) → State → Prop} {ad : List Nat} {D : va_G} {gs : List Nat} {cy : Nat → ClassId} (h : fxX E D cy) : fx_Met l yX6_readSum (.code yX6_readSum cX6_readSum 4 (some .boolean) :: wsL_law) ({ frames := 7, cells := 0, slots := 0, locals := 157 }) E (gs, TX, cy, fun _ => True) ad D classes kx30_c :=
  fx_sound (x := kx30_x) (tb := t_X6_readSum) (an := kx30_a) (sp := kx30_s) (rk := 3) 35 h.1 (fun _ _ _ _ _ _ => trivial) (fun _ _ _ _ _ _ => trivial) (ht_tys cy) (by decide) rfl ⟨fx_an, (fx_ac fl_X6_12 (fx_ac fl_X6_21 (fx_ac fl_X6_38 (fx_ac fl_X6_116 (fx_an))))), fx_an, fx_an, fx_an, (fx_ac (ev_V (kx29 h) (by decide) rfl ⟨by decide, by decide⟩ iV_X6_readTerm g_X6_156) (fx_ac (ev_V (kx16 h) (by decide) rfl ⟨by decide, by decide⟩ iV_X9_advance g_X6_71) (fx_ac (ev_V (kx29 h) (by decide) rfl ⟨by decide, by decide⟩ iV_X6_readTerm g_X6_156) (fx_ac (ev_V (kx26 h) (by decide) rfl ⟨by decide, by decide⟩ iV_X0_add g_X6_144) (fx_an)))))⟩ d_X6_readSum kx30_k
-- X6_readOne 1 i ('c', 7)
def kx31_c : fx_C := ([.inr (.inr 2), .inl (7, 7)], [], [(some (.inl (0, 0)), [.inr (.inr 2), .inl (7, 7)], [((0, 2), .inl (1, 5))]), (some (.inl (1, 1)), [.inr (.inr 2), .inl (7, 7)], [((0, 1), .inr (.inr 9)), ((2, 6), .inr (.inr 10)), ((3, 4), .inl (1, 512)), ((3, 6), .inl (-2147483647, 30))])], [(0, 4), (0, 6), (6, 2), (6, 3), (9, 3), (9, 4), (9, 5), (9, 6), (9, 7), (1000, 17), (1000, 18)])
def kx31_a : List fx_N := []
def kx31_s : List fx_D := []
def kx31_x : fx_X := ([], [(12, 6, 0), (21, 6, 1), (38, 9, 4), (116, 10, 6)], [], [], [], [(15, 150, 6, kx23_c), (21, 153, 6, kx30_c), (61, 71, 9, kx16_c), (66, 153, 6, kx30_c), (83, 144, 0, kx26_c)])
set_option maxRecDepth 100000 in
theorem kx31_k : fx_chk TX 3 kx31_c 3 kx31_x t_X6_readOne kx31_a kx31_s 39 = true := by decide +kernel
set_option maxRecDepth 100000 in
theorem kx31 {l : Launch} {E : (Nat → Prop) → State → Prop} {ad : List Nat} {D : va_G} {gs : List Nat} {cy : Nat → ClassId} (h : fxX E D cy) : fx_Met l yX6_readOne (.code yX6_readOne cX6_readOne 3 (some .boolean) :: wsL_law) ({ frames := 8, cells := 0, slots := 0, locals := 180 }) E (gs, TX, cy, fun _ => True) ad D classes kx31_c :=
  fx_sound (x := kx31_x) (tb := t_X6_readOne) (an := kx31_a) (sp := kx31_s) (rk := 3) 39 h.1 (fun _ _ _ _ _ _ => trivial) (fun _ _ _ _ _ _ => trivial) (ht_tys cy) (by decide) rfl ⟨fx_an, (fx_ac fl_X6_12 (fx_ac fl_X6_21 (fx_ac fl_X6_38 (fx_ac fl_X6_116 (fx_an))))), fx_an, fx_an, fx_an, (fx_ac (ev_V (kx23 h) (by decide) rfl ⟨by decide, by decide⟩ iV_X6_readNot g_X6_150) (fx_ac (ev_V (kx30 h) (by decide) rfl ⟨by decide, by decide⟩ iV_X6_readSum g_X6_153) (fx_ac (ev_V (kx16 h) (by decide) rfl ⟨by decide, by decide⟩ iV_X9_advance g_X6_71) (fx_ac (ev_V (kx30 h) (by decide) rfl ⟨by decide, by decide⟩ iV_X6_readSum g_X6_153) (fx_ac (ev_V (kx26 h) (by decide) rfl ⟨by decide, by decide⟩ iV_X0_add g_X6_144) (fx_an))))))⟩ d_X6_readOne kx31_k
-- X6_readNot 1 i ('c', 6)
def kx32_c : fx_C := ([.inr (.inr 2), .inl (6, 6)], [], [(some (.inl (1, 1)), [.inr (.inr 2), .inl (6, 6)], [((0, 1), .inr (.inr 9)), ((2, 6), .inr (.inr 10)), ((3, 4), .inl (1, 512)), ((3, 6), .inl (-2147483647, 30))]), (some (.inl (0, 0)), [.inr (.inr 2), .inl (6, 6)], [((0, 2), .inl (1, 5))])], [(0, 4), (0, 6), (6, 2), (6, 3), (9, 3), (9, 4), (9, 5), (9, 6), (9, 7), (1000, 17), (1000, 18)])
def kx32_a : List fx_N := []
def kx32_s : List fx_D := []
def kx32_x : fx_X := ([], [(12, 6, 0), (21, 6, 1), (116, 10, 6)], [], [], [], [(15, 71, 9, kx16_c), (22, 147, 6, kx31_c), (41, 144, 0, kx26_c)])
set_option maxRecDepth 100000 in
theorem kx32_k : fx_chk TX 2 kx32_c 3 kx32_x t_X6_readNot kx32_a kx32_s 22 = true := by decide +kernel
set_option maxRecDepth 100000 in
theorem kx32 {l : Launch} {E : (Nat → Prop) → State → Prop} {ad : List Nat} {D : va_G} {gs : List Nat} {cy : Nat → ClassId} (h : fxX E D cy) : fx_Met l yX6_readNot (.code yX6_readNot cX6_readNot 2 (some .boolean) :: wsL_law) ({ frames := 9, cells := 0, slots := 0, locals := 202 }) E (gs, TX, cy, fun _ => True) ad D classes kx32_c :=
  fx_sound (x := kx32_x) (tb := t_X6_readNot) (an := kx32_a) (sp := kx32_s) (rk := 3) 22 h.1 (fun _ _ _ _ _ _ => trivial) (fun _ _ _ _ _ _ => trivial) (ht_tys cy) (by decide) rfl ⟨fx_an, (fx_ac fl_X6_12 (fx_ac fl_X6_21 (fx_ac fl_X6_116 (fx_an)))), fx_an, fx_an, fx_an, (fx_ac (ev_V (kx16 h) (by decide) rfl ⟨by decide, by decide⟩ iV_X9_advance g_X6_71) (fx_ac (ev_V (kx31 h) (by decide) rfl ⟨by decide, by decide⟩ iV_X6_readOne g_X6_147) (fx_ac (ev_V (kx26 h) (by decide) rfl ⟨by decide, by decide⟩ iV_X0_add g_X6_144) (fx_an))))⟩ d_X6_readNot kx32_k
-- X6_readBoth 1 i ('c', 7)
def kx33_c : fx_C := ([.inr (.inr 2), .inl (7, 7)], [], [(some (.inl (0, 0)), [.inr (.inr 2), .inl (7, 7)], [((0, 2), .inl (1, 5))]), (some (.inl (1, 1)), [.inr (.inr 2), .inl (7, 7)], [((0, 1), .inr (.inr 9)), ((2, 6), .inr (.inr 10)), ((3, 4), .inl (1, 512)), ((3, 6), .inl (-2147483647, 30))])], [(0, 4), (0, 6), (6, 2), (6, 3), (9, 3), (9, 4), (9, 5), (9, 6), (9, 7), (1000, 17), (1000, 18)])
def kx33_a : List fx_N := [(12, [(0, .inr (.inr 2)), (1, .inl (7, 7)), (2, .inl (0, 1600))], [((0, 1), .inr (.inr 9)), ((3, 6), .inr (.inr 10)), ((4, 4), .inl (1, 512)), ((4, 6), .inl (-2147483647, 30))], [(0, 0), (1, 2), (0, 0)], [(0, 0), (1, 1)])]
def kx33_s : List fx_D := []
def kx33_x : fx_X := ([], [(12, 6, 0), (21, 6, 1), (38, 9, 4), (116, 10, 6)], [], [], [], [(2, 147, 6, kx31_c), (36, 71, 9, kx16_c), (41, 147, 6, kx31_c), (60, 144, 0, kx26_c)])
set_option maxRecDepth 100000 in
theorem kx33_k : fx_chk TX 3 kx33_c 3 kx33_x t_X6_readBoth kx33_a kx33_s 26 = true := by decide +kernel
set_option maxRecDepth 100000 in
theorem kx33 {l : Launch} {E : (Nat → Prop) → State → Prop} {ad : List Nat} {D : va_G} {gs : List Nat} {cy : Nat → ClassId} (h : fxX E D cy) : fx_Met l yX6_readBoth (.code yX6_readBoth cX6_readBoth 3 (some .boolean) :: wsL_law) ({ frames := 9, cells := 0, slots := 0, locals := 202 }) E (gs, TX, cy, fun _ => True) ad D classes kx33_c :=
  fx_sound (x := kx33_x) (tb := t_X6_readBoth) (an := kx33_a) (sp := kx33_s) (rk := 3) 26 h.1 (fun _ _ _ _ _ _ => trivial) (fun _ _ _ _ _ _ => trivial) (ht_tys cy) (by decide) rfl ⟨fx_an, (fx_ac fl_X6_12 (fx_ac fl_X6_21 (fx_ac fl_X6_38 (fx_ac fl_X6_116 (fx_an))))), fx_an, fx_an, fx_an, (fx_ac (ev_V (kx31 h) (by decide) rfl ⟨by decide, by decide⟩ iV_X6_readOne g_X6_147) (fx_ac (ev_V (kx16 h) (by decide) rfl ⟨by decide, by decide⟩ iV_X9_advance g_X6_71) (fx_ac (ev_V (kx31 h) (by decide) rfl ⟨by decide, by decide⟩ iV_X6_readOne g_X6_147) (fx_ac (ev_V (kx26 h) (by decide) rfl ⟨by decide, by decide⟩ iV_X0_add g_X6_144) (fx_an)))))⟩ d_X6_readBoth kx33_k
-- X6_readEither 1 i ('c', 7)
def kx34_c : fx_C := ([.inr (.inr 2), .inl (7, 7)], [], [(some (.inl (0, 0)), [.inr (.inr 2), .inl (7, 7)], [((0, 2), .inl (1, 5))]), (some (.inl (1, 1)), [.inr (.inr 2), .inl (7, 7)], [((0, 1), .inr (.inr 9)), ((2, 6), .inr (.inr 10)), ((3, 4), .inl (1, 512)), ((3, 6), .inl (-2147483647, 30))])], [(0, 4), (0, 6), (6, 2), (6, 3), (9, 3), (9, 4), (9, 5), (9, 6), (9, 7), (1000, 17), (1000, 18)])
def kx34_a : List fx_N := [(12, [(0, .inr (.inr 2)), (1, .inl (7, 7)), (2, .inl (0, 1600))], [((0, 1), .inr (.inr 9)), ((3, 6), .inr (.inr 10)), ((4, 4), .inl (1, 512)), ((4, 6), .inl (-2147483647, 30))], [(0, 0), (1, 2), (0, 0)], [(0, 0), (1, 1)])]
def kx34_s : List fx_D := []
def kx34_x : fx_X := ([], [(12, 6, 0), (21, 6, 1), (38, 9, 4), (116, 10, 6)], [], [], [], [(2, 141, 6, kx33_c), (36, 71, 9, kx16_c), (41, 141, 6, kx33_c), (60, 144, 0, kx26_c)])
set_option maxRecDepth 100000 in
theorem kx34_k : fx_chk TX 3 kx34_c 3 kx34_x t_X6_readEither kx34_a kx34_s 26 = true := by decide +kernel
set_option maxRecDepth 100000 in
theorem kx34 {l : Launch} {E : (Nat → Prop) → State → Prop} {ad : List Nat} {D : va_G} {gs : List Nat} {cy : Nat → ClassId} (h : fxX E D cy) : fx_Met l yX6_readEither (.code yX6_readEither cX6_readEither 3 (some .boolean) :: wsL_law) ({ frames := 10, cells := 0, slots := 0, locals := 224 }) E (gs, TX, cy, fun _ => True) ad D classes kx34_c :=
  fx_sound (x := kx34_x) (tb := t_X6_readEither) (an := kx34_a) (sp := kx34_s) (rk := 3) 26 h.1 (fun _ _ _ _ _ _ => trivial) (fun _ _ _ _ _ _ => trivial) (ht_tys cy) (by decide) rfl ⟨fx_an, (fx_ac fl_X6_12 (fx_ac fl_X6_21 (fx_ac fl_X6_38 (fx_ac fl_X6_116 (fx_an))))), fx_an, fx_an, fx_an, (fx_ac (ev_V (kx33 h) (by decide) rfl ⟨by decide, by decide⟩ iV_X6_readBoth g_X6_141) (fx_ac (ev_V (kx16 h) (by decide) rfl ⟨by decide, by decide⟩ iV_X9_advance g_X6_71) (fx_ac (ev_V (kx33 h) (by decide) rfl ⟨by decide, by decide⟩ iV_X6_readBoth g_X6_141) (fx_ac (ev_V (kx26 h) (by decide) rfl ⟨by decide, by decide⟩ iV_X0_add g_X6_144) (fx_an)))))⟩ d_X6_readEither kx34_k
-- X6_readBracket 1 i ('c', 6)
def kx35_c : fx_C := ([.inr (.inr 2), .inl (6, 6)], [], [(some (.inl (1, 1)), [.inr (.inr 2), .inl (6, 6)], [((0, 1), .inr (.inr 9)), ((2, 6), .inr (.inr 10)), ((3, 4), .inl (1, 512)), ((3, 6), .inl (-2147483647, 30))]), (some (.inl (0, 0)), [.inr (.inr 2), .inl (6, 6)], [((0, 2), .inl (1, 5))])], [(0, 4), (0, 6), (6, 2), (6, 3), (9, 3), (9, 4), (9, 5), (9, 6), (9, 7), (1000, 17), (1000, 18)])
def kx35_a : List fx_N := []
def kx35_s : List fx_D := []
def kx35_x : fx_X := ([], [(12, 6, 0), (21, 6, 1), (116, 10, 6), (165, 0, 6)], [(165, 0, 6, 0)], [], [], [(31, 71, 9, kx16_c), (38, 126, 6, kx34_c), (47, 89, 6, kx21_c)])
set_option maxRecDepth 100000 in
theorem kx35_k : fx_chk TX 2 kx35_c 3 kx35_x t_X6_readBracket kx35_a kx35_s 29 = true := by decide +kernel
set_option maxRecDepth 100000 in
theorem kx35 {l : Launch} {E : (Nat → Prop) → State → Prop} {ad : List Nat} {D : va_G} {gs : List Nat} {cy : Nat → ClassId} (h : fxX E D cy) : fx_Met l yX6_readBracket (.code yX6_readBracket cX6_readBracket 2 (some .boolean) :: wsL_law) ({ frames := 11, cells := 0, slots := 0, locals := 246 }) E (gs, TX, cy, fun _ => True) ad D classes kx35_c :=
  fx_sound (x := kx35_x) (tb := t_X6_readBracket) (an := kx35_a) (sp := kx35_s) (rk := 3) 29 h.1 (fun _ _ _ _ _ _ => trivial) (fun _ _ _ _ _ _ => trivial) (ht_tys cy) (by decide) rfl ⟨fx_an, (fx_ac fl_X6_12 (fx_ac fl_X6_21 (fx_ac fl_X6_116 (fx_ac fl_X6_165 (fx_an))))), (fx_ac pl_X6_165 (fx_an)), fx_an, fx_an, (fx_ac (ev_V (kx16 h) (by decide) rfl ⟨by decide, by decide⟩ iV_X9_advance g_X6_71) (fx_ac (ev_V (kx34 h) (by decide) rfl ⟨by decide, by decide⟩ iV_X6_readEither g_X6_126) (fx_ac (ev_V (kx21 h) (by decide) rfl ⟨by decide, by decide⟩ iV_X6_pass g_X6_89) (fx_an))))⟩ d_X6_readBracket kx35_k
-- X6_readUnit 1 i ('c', 6)
def kx36_c : fx_C := ([.inr (.inr 2), .inl (6, 6)], [], [(some (.inl (0, 0)), [.inr (.inr 2), .inl (6, 6)], [((0, 2), .inl (1, 5))]), (some (.inl (1, 1)), [.inr (.inr 2), .inl (6, 6)], [((0, 1), .inr (.inr 9)), ((2, 6), .inr (.inr 10)), ((3, 4), .inl (1, 512)), ((3, 6), .inl (-2147483647, 30))])], [(0, 4), (0, 6), (6, 2), (6, 3), (9, 3), (9, 4), (9, 5), (9, 6), (9, 7), (1000, 17), (1000, 18)])
def kx36_a : List fx_N := []
def kx36_s : List fx_D := []
def kx36_x : fx_X := ([], [(12, 6, 0), (21, 6, 1), (38, 9, 4), (96, 9, 6), (116, 10, 6), (165, 0, 6)], [(165, 0, 6, 0)], [], [], [(24, 65, 6, kx19_c), (36, 168, 6, kx35_c), (47, 171, 1000, kx25_c), (54, 65, 6, kx19_c), (89, 144, 0, kx26_c), (96, 71, 9, kx16_c)])
set_option maxRecDepth 100000 in
theorem kx36_k : fx_chk TX 3 kx36_c 3 kx36_x t_X6_readUnit kx36_a kx36_s 42 = true := by decide +kernel
set_option maxRecDepth 100000 in
theorem kx36 {l : Launch} {E : (Nat → Prop) → State → Prop} {ad : List Nat} {D : va_G} {gs : List Nat} {cy : Nat → ClassId} (h : fxX E D cy) : fx_Met l yX6_readUnit (.code yX6_readUnit cX6_readUnit 3 (some .boolean) :: wsL_law) ({ frames := 12, cells := 0, slots := 0, locals := 267 }) E (gs, TX, cy, fun _ => True) ad D classes kx36_c :=
  fx_sound (x := kx36_x) (tb := t_X6_readUnit) (an := kx36_a) (sp := kx36_s) (rk := 3) 42 h.1 (fun _ _ _ _ _ _ => trivial) (fun _ _ _ _ _ _ => trivial) (ht_tys cy) (by decide) rfl ⟨fx_an, (fx_ac fl_X6_12 (fx_ac fl_X6_21 (fx_ac fl_X6_38 (fx_ac fl_X6_96 (fx_ac fl_X6_116 (fx_ac fl_X6_165 (fx_an))))))), (fx_ac pl_X6_165 (fx_an)), fx_an, fx_an, (fx_ac (ev_V (kx19 h) (by decide) rfl ⟨by decide, by decide⟩ iV_X6_refuse g_X6_65) (fx_ac (ev_V (kx35 h) (by decide) rfl ⟨by decide, by decide⟩ iV_X6_readBracket g_X6_168) (fx_ac (ev_S (kx25 h) ⟨by decide, by decide⟩ iS_X9_isKnownKey g_X6_171) (fx_ac (ev_V (kx19 h) (by decide) rfl ⟨by decide, by decide⟩ iV_X6_refuse g_X6_65) (fx_ac (ev_V (kx26 h) (by decide) rfl ⟨by decide, by decide⟩ iV_X0_add g_X6_144) (fx_ac (ev_V (kx16 h) (by decide) rfl ⟨by decide, by decide⟩ iV_X9_advance g_X6_71) (fx_an)))))))⟩ d_X6_readUnit kx36_k
-- X6_readTerm 1 i ('c', 6)
def kx37_c : fx_C := ([.inr (.inr 2), .inl (6, 6)], [], [(some (.inl (0, 0)), [.inr (.inr 2), .inl (6, 6)], [((0, 2), .inl (1, 5))]), (some (.inl (1, 1)), [.inr (.inr 2), .inl (6, 6)], [((0, 1), .inr (.inr 9)), ((2, 6), .inr (.inr 10)), ((3, 4), .inl (1, 512)), ((3, 6), .inl (-2147483647, 30))])], [(0, 4), (0, 6), (6, 2), (6, 3), (9, 3), (9, 4), (9, 5), (9, 6), (9, 7), (1000, 17), (1000, 18)])
def kx37_a : List fx_N := [(12, [(0, .inr (.inr 2)), (1, .inl (6, 6)), (2, .inl (0, 1600))], [((0, 1), .inr (.inr 9)), ((3, 6), .inr (.inr 10)), ((4, 4), .inl (1, 512)), ((4, 6), .inl (-2147483647, 30))], [(0, 0), (1, 2), (0, 0)], [(0, 0), (1, 1)])]
def kx37_s : List fx_D := []
def kx37_x : fx_X := ([], [(12, 6, 0), (21, 6, 1), (38, 9, 4), (116, 10, 6)], [], [], [], [(2, 159, 6, kx36_c), (26, 162, 1000, kx28_c), (44, 71, 9, kx16_c), (49, 159, 6, kx36_c), (66, 144, 0, kx26_c)])
set_option maxRecDepth 100000 in
theorem kx37_k : fx_chk TX 4 kx37_c 3 kx37_x t_X6_readTerm kx37_a kx37_s 30 = true := by decide +kernel
set_option maxRecDepth 100000 in
theorem kx37 {l : Launch} {E : (Nat → Prop) → State → Prop} {ad : List Nat} {D : va_G} {gs : List Nat} {cy : Nat → ClassId} (h : fxX E D cy) : fx_Met l yX6_readTerm (.code yX6_readTerm cX6_readTerm 4 (some .boolean) :: wsL_law) ({ frames := 13, cells := 0, slots := 0, locals := 289 }) E (gs, TX, cy, fun _ => True) ad D classes kx37_c :=
  fx_sound (x := kx37_x) (tb := t_X6_readTerm) (an := kx37_a) (sp := kx37_s) (rk := 3) 30 h.1 (fun _ _ _ _ _ _ => trivial) (fun _ _ _ _ _ _ => trivial) (ht_tys cy) (by decide) rfl ⟨fx_an, (fx_ac fl_X6_12 (fx_ac fl_X6_21 (fx_ac fl_X6_38 (fx_ac fl_X6_116 (fx_an))))), fx_an, fx_an, fx_an, (fx_ac (ev_V (kx36 h) (by decide) rfl ⟨by decide, by decide⟩ iV_X6_readUnit g_X6_159) (fx_ac (ev_S (kx28 h) ⟨by decide, by decide⟩ iS_X6_isTermSign g_X6_162) (fx_ac (ev_V (kx16 h) (by decide) rfl ⟨by decide, by decide⟩ iV_X9_advance g_X6_71) (fx_ac (ev_V (kx36 h) (by decide) rfl ⟨by decide, by decide⟩ iV_X6_readUnit g_X6_159) (fx_ac (ev_V (kx26 h) (by decide) rfl ⟨by decide, by decide⟩ iV_X0_add g_X6_144) (fx_an))))))⟩ d_X6_readTerm kx37_k
-- X6_readSum 1 i ('c', 6)
def kx38_c : fx_C := ([.inr (.inr 2), .inl (6, 6)], [], [(some (.inl (0, 0)), [.inr (.inr 2), .inl (6, 6)], [((0, 2), .inl (1, 5))]), (some (.inl (1, 1)), [.inr (.inr 2), .inl (6, 6)], [((0, 1), .inr (.inr 9)), ((2, 6), .inr (.inr 10)), ((3, 4), .inl (1, 512)), ((3, 6), .inl (-2147483647, 30))])], [(0, 4), (0, 6), (6, 2), (6, 3), (9, 3), (9, 4), (9, 5), (9, 6), (9, 7), (1000, 17), (1000, 18)])
def kx38_a : List fx_N := [(12, [(0, .inr (.inr 2)), (1, .inl (6, 6)), (2, .inl (0, 1600))], [((0, 1), .inr (.inr 9)), ((3, 6), .inr (.inr 10)), ((4, 4), .inl (1, 512)), ((4, 6), .inl (-2147483647, 30))], [(0, 0), (1, 2), (0, 0)], [(0, 0), (1, 1)])]
def kx38_s : List fx_D := []
def kx38_x : fx_X := ([], [(12, 6, 0), (21, 6, 1), (38, 9, 4), (116, 10, 6)], [], [], [], [(2, 156, 6, kx37_c), (55, 71, 9, kx16_c), (60, 156, 6, kx37_c), (77, 144, 0, kx26_c)])
set_option maxRecDepth 100000 in
theorem kx38_k : fx_chk TX 4 kx38_c 3 kx38_x t_X6_readSum kx38_a kx38_s 35 = true := by decide +kernel
set_option maxRecDepth 100000 in
theorem kx38 {l : Launch} {E : (Nat → Prop) → State → Prop} {ad : List Nat} {D : va_G} {gs : List Nat} {cy : Nat → ClassId} (h : fxX E D cy) : fx_Met l yX6_readSum (.code yX6_readSum cX6_readSum 4 (some .boolean) :: wsL_law) ({ frames := 14, cells := 0, slots := 0, locals := 312 }) E (gs, TX, cy, fun _ => True) ad D classes kx38_c :=
  fx_sound (x := kx38_x) (tb := t_X6_readSum) (an := kx38_a) (sp := kx38_s) (rk := 3) 35 h.1 (fun _ _ _ _ _ _ => trivial) (fun _ _ _ _ _ _ => trivial) (ht_tys cy) (by decide) rfl ⟨fx_an, (fx_ac fl_X6_12 (fx_ac fl_X6_21 (fx_ac fl_X6_38 (fx_ac fl_X6_116 (fx_an))))), fx_an, fx_an, fx_an, (fx_ac (ev_V (kx37 h) (by decide) rfl ⟨by decide, by decide⟩ iV_X6_readTerm g_X6_156) (fx_ac (ev_V (kx16 h) (by decide) rfl ⟨by decide, by decide⟩ iV_X9_advance g_X6_71) (fx_ac (ev_V (kx37 h) (by decide) rfl ⟨by decide, by decide⟩ iV_X6_readTerm g_X6_156) (fx_ac (ev_V (kx26 h) (by decide) rfl ⟨by decide, by decide⟩ iV_X0_add g_X6_144) (fx_an)))))⟩ d_X6_readSum kx38_k
