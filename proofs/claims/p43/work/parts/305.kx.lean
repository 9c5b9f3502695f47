-- X5_takeBack 2
def kx166_c : fx_C := ([.inr (.inr 3)], [], [(some (.inl (0, 0)), [.inr (.inr 3)], [((0, 5), .inl (0, 0))]), (some (.inl (1, 1)), [.inr (.inr 3)], [((0, 5), .inl (0, 39))])], [(1, 1), (5, 5), (8, 1), (8, 2), (1000, 14)])
def kx166_a : List fx_N := []
def kx166_s : List fx_D := []
def kx166_x : fx_X := ([], [(91, 5, 5)], [(91, 5, 5, 0)], [], [], [(21, 94, 5, kx165_c)])
set_option maxRecDepth 100000 in
theorem kx166_k : fx_chk TX 1 kx166_c 3 kx166_x t_X5_takeBack kx166_a kx166_s 16 = true := by decide +kernel
set_option maxRecDepth 100000 in
theorem kx166 {l : Launch} {E : (Nat → Prop) → State → Prop} {ad : List Nat} {D : va_G} {gs : List Nat} {cy : Nat → ClassId} (h : fxX E D cy) : fx_Met l yX5_takeBack (.code yX5_takeBack cX5_takeBack 1 (some .boolean) :: wsL_law) ({ frames := 5, cells := 0, slots := 0, locals := 104 }) E (gs, TX, cy, fun _ => True) ad D classes kx166_c :=
  fx_sound (x := kx166_x) (tb := t_X5_takeBack) (an := kx166_a) (sp := kx166_s) (rk := 3) 16 h.1 (fun _ _ _ _ _ _ => trivial) (fun _ _ _ _ _ _ => trivial) (ht_tys cy) (by decide) rfl ⟨fx_an, (fx_ac fl_X5_91 (fx_an)), (fx_ac pl_X5_91 (fx_an)), fx_an, fx_an, (fx_ac (ev_V (kx165 h) (by decide) rfl ⟨by decide, by decide⟩ iV_X5_takeFromTrail g_X5_94) (fx_an))⟩ d_X5_takeBack kx166_k
-- X11_undo 0
def kx167_c : fx_C := ([.inr (.inr 1)], [], [(some (.inl (1, 1)), [.inr (.inr 1)], [((0, 1), .inr (.inr 3)), ((1, 5), .inl (0, 39))]), (some (.inl (0, 0)), [.inr (.inr 1)], [((0, 1), .inr (.inr 3)), ((1, 5), .inl (0, 0))])], [(1, 1), (5, 5), (8, 1), (8, 2), (1000, 14)])
def kx167_a : List fx_N := []
def kx167_s : List fx_D := []
def kx167_x : fx_X := ([], [(19, 11, 1)], [], [], [], [(4, 183, 5, kx166_c)])
set_option maxRecDepth 100000 in
theorem kx167_k : fx_chk TX 1 kx167_c 3 kx167_x t_X11_undo kx167_a kx167_s 6 = true := by decide +kernel
set_option maxRecDepth 100000 in
theorem kx167 {l : Launch} {E : (Nat → Prop) → State → Prop} {ad : List Nat} {D : va_G} {gs : List Nat} {cy : Nat → ClassId} (h : fxX E D cy) : fx_Met l yX11_undo (.code yX11_undo cX11_undo 1 (some .boolean) :: wsL_law) ({ frames := 6, cells := 0, slots := 0, locals := 124 }) E (gs, TX, cy, fun _ => True) ad D classes kx167_c :=
  fx_sound (x := kx167_x) (tb := t_X11_undo) (an := kx167_a) (sp := kx167_s) (rk := 3) 6 h.1 (fun _ _ _ _ _ _ => trivial) (fun _ _ _ _ _ _ => trivial) (ht_tys cy) (by decide) rfl ⟨fx_an, (fx_ac fl_X11_19 (fx_an)), fx_an, fx_an, fx_an, (fx_ac (ev_V (kx166 h) (by decide) rfl ⟨by decide, by decide⟩ iV_X5_takeBack g_X11_183) (fx_an))⟩ d_X11_undo kx167_k
-- X5_doAgain 2
def kx168_c : fx_C := ([.inr (.inr 3)], [], [(some (.inl (0, 0)), [.inr (.inr 3)], []), (some (.inl (1, 1)), [.inr (.inr 3)], [((0, 5), .inl (1, 40)), ((0, 6), .inl (1, 40))])], [(1, 1), (5, 5), (8, 1), (8, 2), (1000, 14)])
def kx168_a : List fx_N := []
def kx168_s : List fx_D := []
def kx168_x : fx_X := ([], [(91, 5, 5), (97, 5, 6)], [(91, 5, 5, 0)], [], [], [(24, 94, 5, kx165_c)])
set_option maxRecDepth 100000 in
theorem kx168_k : fx_chk TX 1 kx168_c 3 kx168_x t_X5_doAgain kx168_a kx168_s 17 = true := by decide +kernel
set_option maxRecDepth 100000 in
theorem kx168 {l : Launch} {E : (Nat → Prop) → State → Prop} {ad : List Nat} {D : va_G} {gs : List Nat} {cy : Nat → ClassId} (h : fxX E D cy) : fx_Met l yX5_doAgain (.code yX5_doAgain cX5_doAgain 1 (some .boolean) :: wsL_law) ({ frames := 5, cells := 0, slots := 0, locals := 104 }) E (gs, TX, cy, fun _ => True) ad D classes kx168_c :=
  fx_sound (x := kx168_x) (tb := t_X5_doAgain) (an := kx168_a) (sp := kx168_s) (rk := 3) 17 h.1 (fun _ _ _ _ _ _ => trivial) (fun _ _ _ _ _ _ => trivial) (ht_tys cy) (by decide) rfl ⟨fx_an, (fx_ac fl_X5_91 (fx_ac fl_X5_97 (fx_an))), (fx_ac pl_X5_91 (fx_an)), fx_an, fx_an, (fx_ac (ev_V (kx165 h) (by decide) rfl ⟨by decide, by decide⟩ iV_X5_takeFromTrail g_X5_94) (fx_an))⟩ d_X5_doAgain kx168_k
-- X11_redo 0
def kx169_c : fx_C := ([.inr (.inr 1)], [], [(some (.inl (1, 1)), [.inr (.inr 1)], [((0, 1), .inr (.inr 3)), ((1, 5), .inl (1, 40)), ((1, 6), .inl (1, 40))]), (some (.inl (0, 0)), [.inr (.inr 1)], [])], [(1, 1), (5, 5), (8, 1), (8, 2), (1000, 14)])
def kx169_a : List fx_N := []
def kx169_s : List fx_D := []
def kx169_x : fx_X := ([], [(19, 11, 1)], [], [], [], [(4, 186, 5, kx168_c)])
set_option maxRecDepth 100000 in
theorem kx169_k : fx_chk TX 1 kx169_c 3 kx169_x t_X11_redo kx169_a kx169_s 6 = true := by decide +kernel
set_option maxRecDepth 100000 in
theorem kx169 {l : Launch} {E : (Nat → Prop) → State → Prop} {ad : List Nat} {D : va_G} {gs : List Nat} {cy : Nat → ClassId} (h : fxX E D cy) : fx_Met l yX11_redo (.code yX11_redo cX11_redo 1 (some .boolean) :: wsL_law) ({ frames := 6, cells := 0, slots := 0, locals := 124 }) E (gs, TX, cy, fun _ => True) ad D classes kx169_c :=
  fx_sound (x := kx169_x) (tb := t_X11_redo) (an := kx169_a) (sp := kx169_s) (rk := 3) 6 h.1 (fun _ _ _ _ _ _ => trivial) (fun _ _ _ _ _ _ => trivial) (ht_tys cy) (by decide) rfl ⟨fx_an, (fx_ac fl_X11_19 (fx_an)), fx_an, fx_an, fx_an, (fx_ac (ev_V (kx168 h) (by decide) rfl ⟨by decide, by decide⟩ iV_X5_doAgain g_X11_186) (fx_an))⟩ d_X11_redo kx169_k
-- J7_fill_53178 31 i
def kx170_c : fx_C := ([.inr (.inr 32), .inl (0, 0)], [], [(none, [.inr (.inr 32), .inl (0, 0)], [])], [(1000, 31)])
def kx170_a : List fx_N := [(5, [(0, .inr (.inr 32)), (1, .inl (0, 0)), (2, .inl (0, 169)), (3, .inl (169, 169))], [], [(0, 0), (1, 2), (0, 0)], [(0, 0), (1, 1)])]
def kx170_s : List fx_D := []
def kx170_x : fx_X := ([], [], [], [], [], [])
set_option maxRecDepth 100000 in
theorem kx170_k : fx_chk TX 4 kx170_c 9 kx170_x t_J7_fill_53178 kx170_a kx170_s 12 = true := by decide +kernel
set_option maxRecDepth 100000 in
theorem kx170 {l : Launch} {E : (Nat → Prop) → State → Prop} {ad : List Nat} {D : va_G} {gs : List Nat} {cy : Nat → ClassId} (h : fxX E D cy) : fx_Met l yJ7_fill_53178 (.code yJ7_fill_53178 cJ7_fill_53178 4 none :: wsL_law) ({ frames := 0, cells := 0, slots := 0, locals := 0 }) E (gs, TX, cy, fun _ => True) ad D classes kx170_c :=
  fx_sound (x := kx170_x) (tb := t_J7_fill_53178) (an := kx170_a) (sp := kx170_s) (rk := 9) 12 h.1 (fun _ _ _ _ _ _ => trivial) (fun _ _ _ _ _ _ => trivial) (ht_tys cy) (by decide) rfl ⟨fx_an, fx_an, fx_an, fx_an, fx_an, fx_an⟩ d_J7_fill_53178 kx170_k
-- X4_countWays 3 64 64
def kx171_c : fx_C := ([.inr (.inr 4), .inr (.inr 65), .inr (.inr 65)], [], [(some (.inl (-2147483648, 2147483647)), [.inr (.inr 4), .inr (.inr 65), .inr (.inr 65)], [((0, 0), .inr (.inr 32)), ((3, 0), .inl (1, 1))])], [(1000, 31)])
def kx171_a : List fx_N := [(17, [(0, .inr (.inr 4)), (1, .inr (.inr 65)), (2, .inr (.inr 65)), (3, .inl (0, 8))], [((0, 0), .inr (.inr 32)), ((4, 0), .inl (1, 1))], [(0, 0), (1, 3), (0, 1), (0, 0), (0, 0)], [(0, 0), (1, 1), (2, 2)]), (36, [(0, .inr (.inr 4)), (1, .inr (.inr 65)), (2, .inr (.inr 65)), (3, .inl (0, 7)), (4, .inl (0, 8))], [((2, 1), .inl (1, 8)), ((0, 0), .inr (.inr 32)), ((6, 0), .inl (1, 1))], [(0, 0), (1, 3), (0, 0), (2, 4), (0, 0)], [(0, 0), (1, 1), (2, 2)])]
def kx171_s : List fx_D := []
def kx171_x : fx_X := ([], [(11, 4, 0), (39, 1, 1)], [], [], [], [(5, 47, 1000, kx170_c), (31, 53, 1002, ([], [], [], [])), (46, 43, 1, kx118_c), (51, 43, 1, kx118_c)])
set_option maxRecDepth 100000 in
theorem kx171_k : fx_chk TX 5 kx171_c 0 kx171_x t_X4_countWays kx171_a kx171_s 29 = true := by decide +kernel
set_option maxRecDepth 100000 in
theorem kx171 {l : Launch} {E : (Nat → Prop) → State → Prop} {ad : List Nat} {D : va_G} {gs : List Nat} {cy : Nat → ClassId} (h : fxX E D cy) : fx_Met l yX4_countWays (.code yX4_countWays cX4_countWays 5 (some .int) :: wsL_law) ({ frames := 1, cells := 0, slots := 0, locals := 23 }) E (gs, TX, cy, fun _ => True) ad D classes kx171_c :=
  fx_sound (x := kx171_x) (tb := t_X4_countWays) (an := kx171_a) (sp := kx171_s) (rk := 0) 29 h.1 (fun _ _ _ _ _ _ => trivial) (fun _ _ _ _ _ _ => trivial) (ht_tys cy) (by decide) rfl ⟨fx_an, (fx_ac fl_X4_11 (fx_ac fl_X4_39 (fx_an))), fx_an, fx_an, fx_an, (fx_ac (ev_S (kx170 h) ⟨by decide, by decide⟩ iS_J7_fill_53178 g_X4_47) (fx_ac (ev_M (by decide) ⟨by decide, by decide, m_137, m_1107, m_396, m_397⟩) (fx_ac (ev_V (kx118 h) (by decide) rfl ⟨by decide, by decide⟩ iV_X1_at g_X4_43) (fx_ac (ev_V (kx118 h) (by decide) rfl ⟨by decide, by decide⟩ iV_X1_at g_X4_43) (fx_an)))))⟩ d_X4_countWays kx171_k
-- X4_countWays 3 64 11
def kx172_c : fx_C := ([.inr (.inr 4), .inr (.inr 65), .inr (.inr 12)], [], [(some (.inl (-2147483648, 2147483647)), [.inr (.inr 4), .inr (.inr 65), .inr (.inr 12)], [((0, 0), .inr (.inr 32)), ((3, 0), .inl (1, 1))])], [(1000, 31)])
def kx172_a : List fx_N := [(17, [(0, .inr (.inr 4)), (1, .inr (.inr 65)), (2, .inr (.inr 12)), (3, .inl (0, 12))], [((0, 0), .inr (.inr 32)), ((4, 0), .inl (1, 1))], [(0, 0), (1, 3), (0, 1), (0, 0), (0, 0)], [(0, 0), (1, 1), (2, 2)]), (36, [(0, .inr (.inr 4)), (1, .inr (.inr 65)), (2, .inr (.inr 12)), (3, .inl (0, 11)), (4, .inl (0, 8))], [((2, 1), .inl (1, 12)), ((0, 0), .inr (.inr 32)), ((6, 0), .inl (1, 1))], [(0, 0), (1, 3), (0, 0), (2, 4), (0, 0)], [(0, 0), (1, 1), (2, 2)])]
def kx172_s : List fx_D := []
def kx172_x : fx_X := ([], [(11, 4, 0), (39, 1, 1)], [], [], [], [(5, 47, 1000, kx170_c), (31, 53, 1002, ([], [], [], [])), (46, 43, 1, kx118_c), (51, 43, 1, kx112_c)])
set_option maxRecDepth 100000 in
theorem kx172_k : fx_chk TX 5 kx172_c 0 kx172_x t_X4_countWays kx172_a kx172_s 29 = true := by decide +kernel
set_option maxRecDepth 100000 in
theorem kx172 {l : Launch} {E : (Nat → Prop) → State → Prop} {ad : List Nat} {D : va_G} {gs : List Nat} {cy : Nat → ClassId} (h : fxX E D cy) : fx_Met l yX4_countWays (.code yX4_countWays cX4_countWays 5 (some .int) :: wsL_law) ({ frames := 1, cells := 0, slots := 0, locals := 23 }) E (gs, TX, cy, fun _ => True) ad D classes kx172_c :=
  fx_sound (x := kx172_x) (tb := t_X4_countWays) (an := kx172_a) (sp := kx172_s) (rk := 0) 29 h.1 (fun _ _ _ _ _ _ => trivial) (fun _ _ _ _ _ _ => trivial) (ht_tys cy) (by decide) rfl ⟨fx_an, (fx_ac fl_X4_11 (fx_ac fl_X4_39 (fx_an))), fx_an, fx_an, fx_an, (fx_ac (ev_S (kx170 h) ⟨by decide, by decide⟩ iS_J7_fill_53178 g_X4_47) (fx_ac (ev_M (by decide) ⟨by decide, by decide, m_137, m_1107, m_396, m_397⟩) (fx_ac (ev_V (kx118 h) (by decide) rfl ⟨by decide, by decide⟩ iV_X1_at g_X4_43) (fx_ac (ev_V (kx112 h) (by decide) rfl ⟨by decide, by decide⟩ iV_X1_at g_X4_43) (fx_an)))))⟩ d_X4_countWays kx172_k
-- X4_countWays 3 11 64
def kx173_c : fx_C := ([.inr (.inr 4), .inr (.inr 12), .inr (.inr 65)], [], [(some (.inl (-2147483648, 2147483647)), [.inr (.inr 4), .inr (.inr 12), .inr (.inr 65)], [((0, 0), .inr (.inr 32)), ((3, 0), .inl (1, 1))])], [(1000, 31)])
def kx173_a : List fx_N := [(17, [(0, .inr (.inr 4)), (1, .inr (.inr 12)), (2, .inr (.inr 65)), (3, .inl (0, 8))], [((0, 0), .inr (.inr 32)), ((4, 0), .inl (1, 1))], [(0, 0), (1, 3), (0, 1), (0, 0), (0, 0)], [(0, 0), (1, 1), (2, 2)]), (36, [(0, .inr (.inr 4)), (1, .inr (.inr 12)), (2, .inr (.inr 65)), (3, .inl (0, 7)), (4, .inl (0, 12))], [((2, 1), .inl (1, 8)), ((0, 0), .inr (.inr 32)), ((6, 0), .inl (1, 1))], [(0, 0), (1, 3), (0, 0), (2, 4), (0, 0)], [(0, 0), (1, 1), (2, 2)])]
def kx173_s : List fx_D := []
def kx173_x : fx_X := ([], [(11, 4, 0), (39, 1, 1)], [], [], [], [(5, 47, 1000, kx170_c), (31, 53, 1002, ([], [], [], [])), (46, 43, 1, kx112_c), (51, 43, 1, kx118_c)])
set_option maxRecDepth 100000 in
theorem kx173_k : fx_chk TX 5 kx173_c 0 kx173_x t_X4_countWays kx173_a kx173_s 29 = true := by decide +kernel
set_option maxRecDepth 100000 in
theorem kx173 {l : Launch} {E : (Nat → Prop) → State → Prop} {ad : List Nat} {D : va_G} {gs : List Nat} {cy : Nat → ClassId} (h : fxX E D cy) : fx_Met l yX4_countWays (.code yX4_countWays cX4_countWays 5 (some .int) :: wsL_law) ({ frames := 1, cells := 0, slots := 0, locals := 23 }) E (gs, TX, cy, fun _ => True) ad D classes kx173_c :=
  fx_sound (x := kx173_x) (tb := t_X4_countWays) (an := kx173_a) (sp := kx173_s) (rk := 0) 29 h.1 (fun _ _ _ _ _ _ => trivial) (fun _ _ _ _ _ _ => trivial) (ht_tys cy) (by decide) rfl ⟨fx_an, (fx_ac fl_X4_11 (fx_ac fl_X4_39 (fx_an))), fx_an, fx_an, fx_an, (fx_ac (ev_S (kx170 h) ⟨by decide, by decide⟩ iS_J7_fill_53178 g_X4_47) (fx_ac (ev_M (by decide) ⟨by decide, by decide, m_137, m_1107, m_396, m_397⟩) (fx_ac (ev_V (kx112 h) (by decide) rfl ⟨by decide, by decide⟩ iV_X1_at g_X4_43) (fx_ac (ev_V (kx118 h) (by decide) rfl ⟨by decide, by decide⟩ iV_X1_at g_X4_43) (fx_an)))))⟩ d_X4_countWays kx173_k
-- X4_countWays 3 11 11
def kx174_c : fx_C := ([.inr (.inr 4), .inr (.inr 12), .inr (.inr 12)], [], [(some (.inl (-2147483648, 2147483647)), [.inr (.inr 4), .inr (.inr 12), .inr (.inr 12)], [((0, 0), .inr (.inr 32)), ((3, 0), .inl (1, 1))])], [(1000, 31)])
def kx174_a : List fx_N := [(17, [(0, .inr (.inr 4)), (1, .inr (.inr 12)), (2, .inr (.inr 12)), (3, .inl (0, 12))], [((0, 0), .inr (.inr 32)), ((4, 0), .inl (1, 1))], [(0, 0), (1, 3), (0, 1), (0, 0), (0, 0)], [(0, 0), (1, 1), (2, 2)]), (36, [(0, .inr (.inr 4)), (1, .inr (.inr 12)), (2, .inr (.inr 12)), (3, .inl (0, 11)), (4, .inl (0, 12))], [((2, 1), .inl (1, 12)), ((0, 0), .inr (.inr 32)), ((6, 0), .inl (1, 1))], [(0, 0), (1, 3), (0, 0), (2, 4), (0, 0)], [(0, 0), (1, 1), (2, 2)])]
def kx174_s : List fx_D := []
def kx174_x : fx_X := ([], [(11, 4, 0), (39, 1, 1)], [], [], [], [(5, 47, 1000, kx170_c), (31, 53, 1002, ([], [], [], [])), (46, 43, 1, kx112_c), (51, 43, 1, kx112_c)])
set_option maxRecDepth 100000 in
theorem kx174_k : fx_chk TX 5 kx174_c 0 kx174_x t_X4_countWays kx174_a kx174_s 29 = true := by decide +kernel
set_option maxRecDepth 100000 in
theorem kx174 {l : Launch} {E : (Nat → Prop) → State → Prop} {ad : List Nat} {D : va_G} {gs : List Nat} {cy : Nat → ClassId} (h : fxX E D cy) : fx_Met l yX4_countWays (.code yX4_countWays cX4_countWays 5 (some .int) :: wsL_law) ({ frames := 1, cells := 0, slots := 0, locals := 23 }) E (gs, TX, cy, fun _ => True) ad D classes kx174_c :=
  fx_sound (x := kx174_x) (tb := t_X4_countWays) (an := kx174_a) (sp := kx174_s) (rk := 0) 29 h.1 (fun _ _ _ _ _ _ => trivial) (fun _ _ _ _ _ _ => trivial) (ht_tys cy) (by decide) rfl ⟨fx_an, (fx_ac fl_X4_11 (fx_ac fl_X4_39 (fx_an))), fx_an, fx_an, fx_an, (fx_ac (ev_S (kx170 h) ⟨by decide, by decide⟩ iS_J7_fill_53178 g_X4_47) (fx_ac (ev_M (by decide) ⟨by decide, by decide, m_137, m_1107, m_396, m_397⟩) (fx_ac (ev_V (kx112 h) (by decide) rfl ⟨by decide, by decide⟩ iV_X1_at g_X4_43) (fx_ac (ev_V (kx112 h) (by decide) rfl ⟨by decide, by decide⟩ iV_X1_at g_X4_43) (fx_an)))))⟩ d_X4_countWays kx174_k
-- X11_ways 0 i i
def kx175_c : fx_C := ([.inr (.inr 1), .inl (-2147483648, 2147483647), .inl (-2147483648, 2147483647)], [], [(some (.inl (-2147483648, 2147483647)), [.inr (.inr 1), .inl (-1, 4), .inl (-1, 4)], [((0, 2), .inr (.inr 4)), ((3, 0), .inr (.inr 32)), ((4, 0), .inl (1, 1))]), (some (.inl (-1, -1)), [.inr (.inr 1), .inl (-2147483648, 2147483647), .inl (-2147483648, 2147483647)], [])], [(1000, 31)])
def kx175_a : List fx_N := []
def kx175_s : List fx_D := []
def kx175_x : fx_X := ([], [(26, 11, 2)], [], [], [], [(2, 131, 11, kx126_c), (8, 131, 11, kx126_c), (33, 189, 4, kx171_c), (33, 189, 4, kx172_c), (33, 189, 4, kx173_c), (33, 189, 4, kx174_c)])
set_option maxRecDepth 100000 in
theorem kx175_k : fx_chk TX 5 kx175_c 0 kx175_x t_X11_ways kx175_a kx175_s 20 = true := by decide +kernel
set_option maxRecDepth 100000 in
theorem kx175 {l : Launch} {E : (Nat → Prop) → State → Prop} {ad : List Nat} {D : va_G} {gs : List Nat} {cy : Nat → ClassId} (h : fxX E D cy) : fx_Met l yX11_ways (.code yX11_ways cX11_ways 5 (some .int) :: wsL_law) ({ frames := 2, cells := 0, slots := 0, locals := 47 }) E (gs, TX, cy, fun _ => True) ad D classes kx175_c :=
  fx_sound (x := kx175_x) (tb := t_X11_ways) (an := kx175_a) (sp := kx175_s) (rk := 0) 20 h.1 (fun _ _ _ _ _ _ => trivial) (fun _ _ _ _ _ _ => trivial) (ht_tys cy) (by decide) rfl ⟨fx_an, (fx_ac fl_X11_26 (fx_an)), fx_an, fx_an, fx_an, (fx_ac (ev_V (kx126 h) (by decide) rfl ⟨by decide, by decide⟩ iV_X11_lineOf g_X11_131) (fx_ac (ev_V (kx126 h) (by decide) rfl ⟨by decide, by decide⟩ iV_X11_lineOf g_X11_131) (fx_ac (ev_V (kx171 h) (by decide) rfl ⟨by decide, by decide⟩ iV_X4_countWays g_X11_189) (fx_ac (ev_V (kx172 h) (by decide) rfl ⟨by decide, by decide⟩ iV_X4_countWays g_X11_189) (fx_ac (ev_V (kx173 h) (by decide) rfl ⟨by decide, by decide⟩ iV_X4_countWays g_X11_189) (fx_ac (ev_V (kx174 h) (by decide) rfl ⟨by decide, by decide⟩ iV_X4_countWays g_X11_189) (fx_an)))))))⟩ d_X11_ways kx175_k
-- X11_isPart i
def kx176_c : fx_C := ([.inl (-2147483648, 2147483647)], [], [(some (.inl (1, 1)), [.inl (0, 1)], []), (some (.inl (0, 0)), [.inl (-2147483648, 2147483647)], [])], [])
def kx176_a : List fx_N := []
def kx176_s : List fx_D := []
def kx176_x : fx_X := ([], [], [], [], [], [])
set_option maxRecDepth 100000 in
theorem kx176_k : fx_chk TX 1 kx176_c 3 kx176_x t_X11_isPart kx176_a kx176_s 10 = true := by decide +kernel
set_option maxRecDepth 100000 in
theorem kx176 {l : Launch} {E : (Nat → Prop) → State → Prop} {ad : List Nat} {D : va_G} {gs : List Nat} {cy : Nat → ClassId} (h : fxX E D cy) : fx_Met l yX11_isPart (.code yX11_isPart cX11_isPart 1 (some .boolean) :: wsL_law) ({ frames := 0, cells := 0, slots := 0, locals := 0 }) E (gs, TX, cy, fun _ => True) ad D classes kx176_c :=
  fx_sound (x := kx176_x) (tb := t_X11_isPart) (an := kx176_a) (sp := kx176_s) (rk := 3) 10 h.1 (fun _ _ _ _ _ _ => trivial) (fun _ _ _ _ _ _ => trivial) (ht_tys cy) (by decide) rfl ⟨fx_an, fx_an, fx_an, fx_an, fx_an, fx_an⟩ d_X11_isPart kx176_k
-- X11_choices i i
def kx177_c : fx_C := ([.inl (0, 12), .inl (0, 8)], [], [(some (.inl (-2147483648, 2147483647)), [.inl (0, 12), .inl (0, 8)], [])], [])
def kx177_a : List fx_N := [(4, [(0, .inl (0, 12)), (1, .inl (0, 8)), (2, .inl (-2147483648, 2147483647)), (3, .inl (1, 9))], [], [(0, 0), (1, 3), (0, 0)], [(0, 0), (1, 1)])]
def kx177_s : List fx_D := []
def kx177_x : fx_X := ([], [], [], [], [], [])
set_option maxRecDepth 100000 in
theorem kx177_k : fx_chk TX 4 kx177_c 0 kx177_x t_X11_choices kx177_a kx177_s 18 = true := by decide +kernel
set_option maxRecDepth 100000 in
theorem kx177 {l : Launch} {E : (Nat → Prop) → State → Prop} {ad : List Nat} {D : va_G} {gs : List Nat} {cy : Nat → ClassId} (h : fxX E D cy) : fx_Met l yX11_choices (.code yX11_choices cX11_choices 4 (some .int) :: wsL_law) ({ frames := 0, cells := 0, slots := 0, locals := 0 }) E (gs, TX, cy, fun _ => True) ad D classes kx177_c :=
  fx_sound (x := kx177_x) (tb := t_X11_choices) (an := kx177_a) (sp := kx177_s) (rk := 0) 18 h.1 (fun _ _ _ _ _ _ => trivial) (fun _ _ _ _ _ _ => trivial) (ht_tys cy) (by decide) rfl ⟨fx_an, fx_an, fx_an, fx_an, fx_an, fx_an⟩ d_X11_choices kx177_k
-- X11_greatestDivisor i i
def kx178_c : fx_C := ([.inl (-2147483648, 2147483647), .inl (-2147483648, 2147483647)], [], [(some (.inl (-2147483648, 2147483647)), [.inl (-2147483648, 2147483647), .inl (-2147483648, 2147483647)], [])], [])
def kx178_a : List fx_N := [(7, [(2, .inl (-2147483648, 2147483647)), (3, .inl (-2147483648, 2147483647)), (4, .inl (0, 64))], [], [(0, 0), (1, 2), (0, 0)], [])]
def kx178_s : List fx_D := []
def kx178_x : fx_X := ([], [], [], [], [], [])
set_option maxRecDepth 100000 in
theorem kx178_k : fx_chk TX 6 kx178_c 0 kx178_x t_X11_greatestDivisor kx178_a kx178_s 18 = true := by decide +kernel
set_option maxRecDepth 100000 in
theorem kx178 {l : Launch} {E : (Nat → Prop) → State → Prop} {ad : List Nat} {D : va_G} {gs : List Nat} {cy : Nat → ClassId} (h : fxX E D cy) : fx_Met l yX11_greatestDivisor (.code yX11_greatestDivisor cX11_greatestDivisor 6 (some .int) :: wsL_law) ({ frames := 0, cells := 0, slots := 0, locals := 0 }) E (gs, TX, cy, fun _ => True) ad D classes kx178_c :=
  fx_sound (x := kx178_x) (tb := t_X11_greatestDivisor) (an := kx178_a) (sp := kx178_s) (rk := 0) 18 h.1 (fun _ _ _ _ _ _ => trivial) (fun _ _ _ _ _ _ => trivial) (ht_tys cy) (by decide) rfl ⟨fx_an, fx_an, fx_an, fx_an, fx_an, fx_an⟩ d_X11_greatestDivisor kx178_k
-- X11_lowest i i i
def kx179_c : fx_C := ([.inl (-2147483648, 2147483647), .inl (-2147483648, 2147483647), .inl (0, 1)], [], [(some (.inl (-2147483648, 2147483647)), [.inl (-2147483648, 2147483647), .inl (-2147483648, 2147483647), .inl (0, 1)], [])], [])
def kx179_a : List fx_N := []
def kx179_s : List fx_D := []
def kx179_x : fx_X := ([], [], [], [], [], [(1, 339, 1003, ([], [], [], [])), (5, 339, 1003, ([], [], [], [])), (8, 344, 1000, kx178_c)])
set_option maxRecDepth 100000 in
theorem kx179_k : fx_chk TX 5 kx179_c 0 kx179_x t_X11_lowest kx179_a kx179_s 19 = true := by decide +kernel
set_option maxRecDepth 100000 in
theorem kx179 {l : Launch} {E : (Nat → Prop) → State → Prop} {ad : List Nat} {D : va_G} {gs : List Nat} {cy : Nat → ClassId} (h : fxX E D cy) : fx_Met l yX11_lowest (.code yX11_lowest cX11_lowest 5 (some .int) :: wsL_law) ({ frames := 1, cells := 0, slots := 0, locals := 25 }) E (gs, TX, cy, fun _ => True) ad D classes kx179_c :=
  fx_sound (x := kx179_x) (tb := t_X11_lowest) (an := kx179_a) (sp := kx179_s) (rk := 0) 19 h.1 (fun _ _ _ _ _ _ => trivial) (fun _ _ _ _ _ _ => trivial) (ht_tys cy) (by decide) rfl ⟨fx_an, fx_an, fx_an, fx_an, fx_an, (fx_ac (ev_M (by decide) ⟨by decide, by decide, m_137, m_1135, m_1136, m_1137⟩) (fx_ac (ev_M (by decide) ⟨by decide, by decide, m_137, m_1135, m_1136, m_1137⟩) (fx_ac (ev_S (kx178 h) ⟨by decide, by decide⟩ iS_X11_greatestDivisor g_X11_344) (fx_an))))⟩ d_X11_lowest kx179_k
-- X11_odds 0 i i
def kx180_c : fx_C := ([.inr (.inr 1), .inl (-2147483648, 2147483647), .inl (-2147483648, 2147483647)], [], [(some (.inl (-1, -1)), [.inr (.inr 1), .inl (-2147483648, 2147483647), .inl (-2147483648, 2147483647)], []), (some (.inl (-2147483648, 2147483647)), [.inr (.inr 1), .inl (0, 4), .inl (0, 1)], [((0, 8), .inr (.inr 9)), ((3, 9), .inl (1, 5)), ((0, 2), .inr (.inr 4)), ((5, 0), .inr (.inr 32)), ((6, 0), .inl (1, 1))])], [(1000, 31)])
def kx180_a : List fx_N := []
def kx180_s : List fx_D := []
def kx180_x : fx_X := ([], [(19, 11, 1), (26, 11, 2), (114, 5, 0), (118, 8, 0), (134, 1, 1)], [], [], [], [(2, 127, 11, kx124_c), (23, 193, 1000, kx176_c), (50, 189, 4, kx172_c), (62, 196, 1000, kx177_c), (66, 199, 1000, kx179_c)])
set_option maxRecDepth 100000 in
theorem kx180_k : fx_chk TX 5 kx180_c 0 kx180_x t_X11_odds kx180_a kx180_s 34 = true := by decide +kernel
set_option maxRecDepth 100000 in
theorem kx180 {l : Launch} {E : (Nat → Prop) → State → Prop} {ad : List Nat} {D : va_G} {gs : List Nat} {cy : Nat → ClassId} (h : fxX E D cy) : fx_Met l yX11_odds (.code yX11_odds cX11_odds 5 (some .int) :: wsL_law) ({ frames := 2, cells := 0, slots := 0, locals := 49 }) E (gs, TX, cy, fun _ => True) ad D classes kx180_c :=
  fx_sound (x := kx180_x) (tb := t_X11_odds) (an := kx180_a) (sp := kx180_s) (rk := 0) 34 h.1 (fun _ _ _ _ _ _ => trivial) (fun _ _ _ _ _ _ => trivial) (ht_tys cy) (by decide) rfl ⟨fx_an, (fx_ac fl_X11_19 (fx_ac fl_X11_26 (fx_ac fl_X11_114 (fx_ac fl_X11_118 (fx_ac fl_X11_134 (fx_an)))))), fx_an, fx_an, fx_an, (fx_ac (ev_V (kx124 h) (by decide) rfl ⟨by decide, by decide⟩ iV_X11_slipOf g_X11_127) (fx_ac (ev_S (kx176 h) ⟨by decide, by decide⟩ iS_X11_isPart g_X11_193) (fx_ac (ev_V (kx172 h) (by decide) rfl ⟨by decide, by decide⟩ iV_X4_countWays g_X11_189) (fx_ac (ev_S (kx177 h) ⟨by decide, by decide⟩ iS_X11_choices g_X11_196) (fx_ac (ev_S (kx179 h) ⟨by decide, by decide⟩ iS_X11_lowest g_X11_199) (fx_an))))))⟩ d_X11_odds kx180_k
-- X1_at 65 i
def kx181_c : fx_C := ([.inr (.inr 66), .inl (0, 8)], [], [(some (.inl (-1, -1)), [.inr (.inr 66), .inl (0, 8)], [])], [])
def kx181_a : List fx_N := []
def kx181_s : List fx_D := []
def kx181_x : fx_X := ([], [(21, 1, 1)], [], [], [], [])
set_option maxRecDepth 100000 in
theorem kx181_k : fx_chk TX 2 kx181_c 0 kx181_x t_X1_at kx181_a kx181_s 10 = true := by decide +kernel
set_option maxRecDepth 100000 in
theorem kx181 {l : Launch} {E : (Nat → Prop) → State → Prop} {ad : List Nat} {D : va_G} {gs : List Nat} {cy : Nat → ClassId} (h : fxX E D cy) : fx_Met l yX1_at (.code yX1_at cX1_at 2 (some .int) :: wsL_law) ({ frames := 0, cells := 0, slots := 0, locals := 0 }) E (gs, TX, cy, fun _ => True) ad D classes kx181_c :=
  fx_sound (x := kx181_x) (tb := t_X1_at) (an := kx181_a) (sp := kx181_s) (rk := 0) 10 h.1 (fun _ _ _ _ _ _ => trivial) (fun _ _ _ _ _ _ => trivial) (ht_tys cy) (by decide) rfl ⟨fx_an, (fx_ac fl_X1_21 (fx_an)), fx_an, fx_an, fx_an, fx_an⟩ d_X1_at kx181_k
-- X4_findNext 3 i
def kx182_c : fx_C := ([.inr (.inr 4), .inl (0, 728)], [], [(none, [.inr (.inr 4), .inl (0, 728)], [])], [(1000, 34)])
def kx182_a : List fx_N := []
def kx182_s : List fx_D := []
def kx182_x : fx_X := ([], [(21, 4, 3), (29, 4, 4), (33, 4, 5), (36, 4, 6)], [], [], [], [(13, 43, 1, kx181_c), (13, 43, 1, kx118_c), (33, 43, 1, kx181_c), (33, 43, 1, kx118_c), (50, 43, 1, kx181_c), (50, 43, 1, kx118_c)])
set_option maxRecDepth 100000 in
theorem kx182_k : fx_chk TX 2 kx182_c 9 kx182_x t_X4_findNext kx182_a kx182_s 35 = true := by decide +kernel
set_option maxRecDepth 100000 in
theorem kx182 {l : Launch} {E : (Nat → Prop) → State → Prop} {ad : List Nat} {D : va_G} {gs : List Nat} {cy : Nat → ClassId} (h : fxX E D cy) : fx_Met l yX4_findNext (.code yX4_findNext cX4_findNext 2 none :: wsL_law) ({ frames := 1, cells := 0, slots := 0, locals := 21 }) E (gs, TX, cy, fun _ => True) ad D classes kx182_c :=
  fx_sound (x := kx182_x) (tb := t_X4_findNext) (an := kx182_a) (sp := kx182_s) (rk := 9) 35 h.1 (fun _ _ _ _ _ _ => trivial) (fun _ _ _ _ _ _ => trivial) (ht_tys cy) (by decide) rfl ⟨fx_an, (fx_ac fl_X4_21 (fx_ac fl_X4_29 (fx_ac fl_X4_33 (fx_ac fl_X4_36 (fx_an))))), fx_an, fx_an, fx_an, (fx_ac (ev_V (kx181 h) (by decide) rfl ⟨by decide, by decide⟩ iV_X1_at g_X4_43) (fx_ac (ev_V (kx118 h) (by decide) rfl ⟨by decide, by decide⟩ iV_X1_at g_X4_43) (fx_ac (ev_V (kx181 h) (by decide) rfl ⟨by decide, by decide⟩ iV_X1_at g_X4_43) (fx_ac (ev_V (kx118 h) (by decide) rfl ⟨by decide, by decide⟩ iV_X1_at g_X4_43) (fx_ac (ev_V (kx181 h) (by decide) rfl ⟨by decide, by decide⟩ iV_X1_at g_X4_43) (fx_ac (ev_V (kx118 h) (by decide) rfl ⟨by decide, by decide⟩ iV_X1_at g_X4_43) (fx_an)))))))⟩ d_X4_findNext kx182_k
-- X4_isNewStep 3 i
def kx183_c : fx_C := ([.inr (.inr 4), .inl (0, 2)], [], [(some (.inl (0, 0)), [.inr (.inr 4), .inl (0, 2)], []), (some (.inl (1, 1)), [.inr (.inr 4), .inl (0, 2)], [])], [])
def kx183_a : List fx_N := [(2, [(0, .inr (.inr 4)), (1, .inl (0, 2)), (2, .inl (0, 2))], [], [(0, 0), (1, 2), (0, 0)], [(0, 0), (1, 1)])]
def kx183_s : List fx_D := []
def kx183_x : fx_X := ([], [(21, 4, 3)], [], [], [], [])
set_option maxRecDepth 100000 in
theorem kx183_k : fx_chk TX 3 kx183_c 3 kx183_x t_X4_isNewStep kx183_a kx183_s 17 = true := by decide +kernel
set_option maxRecDepth 100000 in
theorem kx183 {l : Launch} {E : (Nat → Prop) → State → Prop} {ad : List Nat} {D : va_G} {gs : List Nat} {cy : Nat → ClassId} (h : fxX E D cy) : fx_Met l yX4_isNewStep (.code yX4_isNewStep cX4_isNewStep 3 (some .boolean) :: wsL_law) ({ frames := 0, cells := 0, slots := 0, locals := 0 }) E (gs, TX, cy, fun _ => True) ad D classes kx183_c :=
  fx_sound (x := kx183_x) (tb := t_X4_isNewStep) (an := kx183_a) (sp := kx183_s) (rk := 3) 17 h.1 (fun _ _ _ _ _ _ => trivial) (fun _ _ _ _ _ _ => trivial) (ht_tys cy) (by decide) rfl ⟨fx_an, (fx_ac fl_X4_21 (fx_an)), fx_an, fx_an, fx_an, fx_an⟩ d_X4_isNewStep kx183_k
