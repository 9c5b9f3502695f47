-- X4_fillCell 3 i
def kx185_c : fx_C := ([.inr (.inr 4), .inl (0, 728)], [], [(none, [.inr (.inr 4), .inl (0, 728)], [])], [(1000, 32), (1000, 33), (1000, 34)])
def kx185_a : List fx_N := [(12, [(0, .inr (.inr 4)), (1, .inl (0, 728)), (2, .inl (-2147483648, 2147483647)), (3, .inl (-2147483648, 2147483647)), (4, .inl (0, 3))], [], [(0, 0), (1, 4), (0, 0)], [(0, 0), (1, 1)])]
def kx185_s : List fx_D := []
def kx185_x : fx_X := ([], [(15, 4, 1), (18, 4, 2), (21, 4, 3)], [], [], [], [(2, 106, 4, kx182_c), (25, 109, 4, kx183_c), (40, 100, 4, kx184_c)])
set_option maxRecDepth 100000 in
theorem kx185_k : fx_chk TX 6 kx185_c 9 kx185_x t_X4_fillCell kx185_a kx185_s 48 = true := by decide +kernel
set_option maxRecDepth 100000 in
theorem kx185 {l : Launch} {E : (Nat → Prop) → State → Prop} {ad : List Nat} {D : va_G} {gs : List Nat} {cy : Nat → ClassId} (h : fxX E D cy) : fx_Met l yX4_fillCell (.code yX4_fillCell cX4_fillCell 6 none :: wsL_law) ({ frames := 2, cells := 0, slots := 0, locals := 46 }) E (gs, TX, cy, fun _ => True) ad D classes kx185_c :=
  fx_sound (x := kx185_x) (tb := t_X4_fillCell) (an := kx185_a) (sp := kx185_s) (rk := 9) 48 h.1 (fun _ _ _ _ _ _ => trivial) (fun _ _ _ _ _ _ => trivial) (ht_tys cy) (by decide) rfl ⟨fx_an, (fx_ac fl_X4_15 (fx_ac fl_X4_18 (fx_ac fl_X4_21 (fx_an)))), fx_an, fx_an, fx_an, (fx_ac (ev_V (kx182 h) (by decide) rfl ⟨by decide, by decide⟩ iV_X4_findNext g_X4_106) (fx_ac (ev_V (kx183 h) (by decide) rfl ⟨by decide, by decide⟩ iV_X4_isNewStep g_X4_109) (fx_ac (ev_V (kx184 h) (by decide) rfl ⟨by decide, by decide⟩ iV_X4_cellBehind g_X4_100) (fx_an))))⟩ d_X4_fillCell kx185_k
-- X4_fillShortest 3 64 64 65
def kx186_c : fx_C := ([.inr (.inr 4), .inr (.inr 65), .inr (.inr 65), .inr (.inr 66)], [], [(none, [.inr (.inr 4), .inr (.inr 65), .inr (.inr 65), .inr (.inr 66)], [])], [(4, 4), (4, 5), (4, 6), (1000, 32), (1000, 33), (1000, 34)])
def kx186_a : List fx_N := [(29, [(0, .inr (.inr 4)), (4, .inl (-1, 8))], [], [(0, 0), (2, 1), (0, 1), (0, 0), (0, 0), (0, 0), (0, 0)], [(0, 0)]), (48, [(0, .inr (.inr 4)), (4, .inl (0, 8)), (5, .inl (-1, 8))], [], [(0, 0), (2, 1), (0, 0), (2, 2), (0, 1), (0, 0), (0, 0)], [(0, 0)]), (67, [(0, .inr (.inr 4)), (4, .inl (0, 8)), (5, .inl (0, 8)), (6, .inl (-1, 8))], [], [(0, 0), (2, 1), (0, 0), (2, 2), (0, 0), (2, 3), (0, 0)], [(0, 0)])]
def kx186_s : List fx_D := []
def kx186_x : fx_X := ([], [(29, 4, 4), (33, 4, 5), (36, 4, 6), (39, 1, 1)], [(29, 4, 4, 4), (33, 4, 5, 4), (36, 4, 6, 4)], [], [], [(24, 53, 1002, ([], [], [], [])), (43, 53, 1002, ([], [], [], [])), (62, 53, 1002, ([], [], [], [])), (87, 103, 4, kx185_c)])
set_option maxRecDepth 100000 in
theorem kx186_k : fx_chk TX 7 kx186_c 9 kx186_x t_X4_fillShortest kx186_a kx186_s 18 = true := by decide +kernel
set_option maxRecDepth 100000 in
theorem kx186 {l : Launch} {E : (Nat → Prop) → State → Prop} {ad : List Nat} {D : va_G} {gs : List Nat} {cy : Nat → ClassId} (h : fxX E D cy) : fx_Met l yX4_fillShortest (.code yX4_fillShortest cX4_fillShortest 7 none :: wsL_law) ({ frames := 3, cells := 0, slots := 0, locals := 71 }) E (gs, TX, cy, fun _ => True) ad D classes kx186_c :=
  fx_sound (x := kx186_x) (tb := t_X4_fillShortest) (an := kx186_a) (sp := kx186_s) (rk := 9) 18 h.1 (fun _ _ _ _ _ _ => trivial) (fun _ _ _ _ _ _ => trivial) (ht_tys cy) (by decide) rfl ⟨fx_an, (fx_ac fl_X4_29 (fx_ac fl_X4_33 (fx_ac fl_X4_36 (fx_ac fl_X4_39 (fx_an))))), (fx_ac pl_X4_29 (fx_ac pl_X4_33 (fx_ac pl_X4_36 (fx_an)))), fx_an, fx_an, (fx_ac (ev_M (by decide) ⟨by decide, by decide, m_137, m_1107, m_396, m_397⟩) (fx_ac (ev_M (by decide) ⟨by decide, by decide, m_137, m_1107, m_396, m_397⟩) (fx_ac (ev_M (by decide) ⟨by decide, by decide, m_137, m_1107, m_396, m_397⟩) (fx_ac (ev_V (kx185 h) (by decide) rfl ⟨by decide, by decide⟩ iV_X4_fillCell g_X4_103) (fx_an)))))⟩ d_X4_fillShortest kx186_k
-- X4_leastStep 3 i i
def kx187_c : fx_C := ([.inr (.inr 4), .inl (0, 728), .inl (0, 2147483646)], [], [(some (.inl (-1, 2)), [.inr (.inr 4), .inl (0, 728), .inl (0, 2147483646)], [])], [(1000, 34)])
def kx187_a : List fx_N := [(10, [(0, .inr (.inr 4)), (1, .inl (0, 728)), (2, .inl (0, 2147483646)), (3, .inl (-1, 2)), (4, .inl (0, 3))], [], [(0, 0), (1, 4), (0, 0)], [(0, 0), (1, 1), (2, 2)])]
def kx187_s : List fx_D := []
def kx187_x : fx_X := ([], [(15, 4, 1), (21, 4, 3)], [], [], [], [(2, 106, 4, kx182_c), (44, 100, 4, kx184_c)])
set_option maxRecDepth 100000 in
theorem kx187_k : fx_chk TX 5 kx187_c 0 kx187_x t_X4_leastStep kx187_a kx187_s 42 = true := by decide +kernel
set_option maxRecDepth 100000 in
theorem kx187 {l : Launch} {E : (Nat → Prop) → State → Prop} {ad : List Nat} {D : va_G} {gs : List Nat} {cy : Nat → ClassId} (h : fxX E D cy) : fx_Met l yX4_leastStep (.code yX4_leastStep cX4_leastStep 5 (some .int) :: wsL_law) ({ frames := 2, cells := 0, slots := 0, locals := 46 }) E (gs, TX, cy, fun _ => True) ad D classes kx187_c :=
  fx_sound (x := kx187_x) (tb := t_X4_leastStep) (an := kx187_a) (sp := kx187_s) (rk := 0) 42 h.1 (fun _ _ _ _ _ _ => trivial) (fun _ _ _ _ _ _ => trivial) (ht_tys cy) (by decide) rfl ⟨fx_an, (fx_ac fl_X4_15 (fx_ac fl_X4_21 (fx_an))), fx_an, fx_an, fx_an, (fx_ac (ev_V (kx182 h) (by decide) rfl ⟨by decide, by decide⟩ iV_X4_findNext g_X4_106) (fx_ac (ev_V (kx184 h) (by decide) rfl ⟨by decide, by decide⟩ iV_X4_cellBehind g_X4_100) (fx_an)))⟩ d_X4_leastStep kx187_k
-- X1_hasRoom 12
def kx188_c : fx_C := ([.inr (.inr 13)], [], [(some (.inl (1, 1)), [.inr (.inr 13)], [((0, 1), .inl (0, 23))]), (some (.inl (0, 0)), [.inr (.inr 13)], [((0, 1), .inl (24, 24))])], [])
def kx188_a : List fx_N := []
def kx188_s : List fx_D := []
def kx188_x : fx_X := ([], [(15, 1, 0), (21, 1, 1)], [], [], [], [])
set_option maxRecDepth 100000 in
theorem kx188_k : fx_chk TX 1 kx188_c 3 kx188_x t_X1_hasRoom kx188_a kx188_s 14 = true := by decide +kernel
set_option maxRecDepth 100000 in
theorem kx188 {l : Launch} {E : (Nat → Prop) → State → Prop} {ad : List Nat} {D : va_G} {gs : List Nat} {cy : Nat → ClassId} (h : fxX E D cy) : fx_Met l yX1_hasRoom (.code yX1_hasRoom cX1_hasRoom 1 (some .boolean) :: wsL_law) ({ frames := 0, cells := 0, slots := 0, locals := 0 }) E (gs, TX, cy, fun _ => True) ad D classes kx188_c :=
  fx_sound (x := kx188_x) (tb := t_X1_hasRoom) (an := kx188_a) (sp := kx188_s) (rk := 3) 14 h.1 (fun _ _ _ _ _ _ => trivial) (fun _ _ _ _ _ _ => trivial) (ht_tys cy) (by decide) rfl ⟨fx_an, (fx_ac fl_X1_15 (fx_ac fl_X1_21 (fx_an))), fx_an, fx_an, fx_an, fx_an⟩ d_X1_hasRoom kx188_k
-- X1_add 12 i
def kx189_c : fx_C := ([.inr (.inr 13), .inl (-2147483648, 2147483647)], [], [(none, [.inr (.inr 13), .inl (-2147483648, 2147483647)], [((0, 1), .inl (1, 24))])], [(1, 1), (1000, 15)])
def kx189_a : List fx_N := []
def kx189_s : List fx_D := []
def kx189_x : fx_X := ([], [(15, 1, 0), (21, 1, 1)], [(21, 1, 1, 0)], [], [], [(1, 25, 1, kx188_c)])
set_option maxRecDepth 100000 in
theorem kx189_k : fx_chk TX 2 kx189_c 9 kx189_x t_X1_add kx189_a kx189_s 18 = true := by decide +kernel
set_option maxRecDepth 100000 in
theorem kx189 {l : Launch} {E : (Nat → Prop) → State → Prop} {ad : List Nat} {D : va_G} {gs : List Nat} {cy : Nat → ClassId} (h : fxX E D cy) : fx_Met l yX1_add (.code yX1_add cX1_add 2 none :: wsL_law) ({ frames := 1, cells := 0, slots := 0, locals := 20 }) E (gs, TX, cy, fun _ => True) ad D classes kx189_c :=
  fx_sound (x := kx189_x) (tb := t_X1_add) (an := kx189_a) (sp := kx189_s) (rk := 9) 18 h.1 (fun _ _ _ _ _ _ => trivial) (fun _ _ _ _ _ _ => trivial) (ht_tys cy) (by decide) rfl ⟨fx_an, (fx_ac fl_X1_15 (fx_ac fl_X1_21 (fx_an))), (fx_ac pl_X1_21 (fx_an)), fx_an, fx_an, (fx_ac (ev_V (kx188 h) (by decide) rfl ⟨by decide, by decide⟩ iV_X1_hasRoom g_X1_25) (fx_an))⟩ d_X1_add kx189_k
-- X4_layShortest 3 64 64 65 12
def kx190_c : fx_C := ([.inr (.inr 4), .inr (.inr 65), .inr (.inr 65), .inr (.inr 66), .inr (.inr 13)], [], [(none, [.inr (.inr 4), .inr (.inr 65), .inr (.inr 65), .inr (.inr 66), .inr (.inr 13)], [])], [(1, 1), (4, 4), (4, 5), (4, 6), (1000, 15), (1000, 32), (1000, 33), (1000, 34)])
def kx190_a : List fx_N := [(23, [(0, .inr (.inr 4)), (4, .inr (.inr 13)), (5, .inl (0, 728)), (6, .inl (-2147483648, 2147483647))], [], [(0, 0), (2, 3), (0, 0)], [(0, 0), (4, 1)])]
def kx190_s : List fx_D := []
def kx190_x : fx_X := ([], [(15, 4, 1), (21, 4, 3)], [], [], [], [(4, 93, 4, kx186_c), (9, 76, 1, kx111_c), (35, 97, 4, kx187_c), (56, 90, 1, kx189_c), (69, 100, 4, kx184_c)])
set_option maxRecDepth 100000 in
theorem kx190_k : fx_chk TX 8 kx190_c 9 kx190_x t_X4_layShortest kx190_a kx190_s 31 = true := by decide +kernel
set_option maxRecDepth 100000 in
theorem kx190 {l : Launch} {E : (Nat → Prop) → State → Prop} {ad : List Nat} {D : va_G} {gs : List Nat} {cy : Nat → ClassId} (h : fxX E D cy) : fx_Met l yX4_layShortest (.code yX4_layShortest cX4_layShortest 8 none :: wsL_law) ({ frames := 4, cells := 0, slots := 0, locals := 97 }) E (gs, TX, cy, fun _ => True) ad D classes kx190_c :=
  fx_sound (x := kx190_x) (tb := t_X4_layShortest) (an := kx190_a) (sp := kx190_s) (rk := 9) 31 h.1 (fun _ _ _ _ _ _ => trivial) (fun _ _ _ _ _ _ => trivial) (ht_tys cy) (by decide) rfl ⟨fx_an, (fx_ac fl_X4_15 (fx_ac fl_X4_21 (fx_an))), fx_an, fx_an, fx_an, (fx_ac (ev_V (kx186 h) (by decide) rfl ⟨by decide, by decide⟩ iV_X4_fillShortest g_X4_93) (fx_ac (ev_V (kx111 h) (by decide) rfl ⟨by decide, by decide⟩ iV_X1_clear g_X4_76) (fx_ac (ev_V (kx187 h) (by decide) rfl ⟨by decide, by decide⟩ iV_X4_leastStep g_X4_97) (fx_ac (ev_V (kx189 h) (by decide) rfl ⟨by decide, by decide⟩ iV_X1_add g_X4_90) (fx_ac (ev_V (kx184 h) (by decide) rfl ⟨by decide, by decide⟩ iV_X4_cellBehind g_X4_100) (fx_an))))))⟩ d_X4_layShortest kx190_k
-- X11_layShortest 0 64 64 65
def kx191_c : fx_C := ([.inr (.inr 1), .inr (.inr 65), .inr (.inr 65), .inr (.inr 66)], [], [(some (.inl (0, 24)), [.inr (.inr 1), .inr (.inr 65), .inr (.inr 65), .inr (.inr 66)], [])], [(1, 1), (4, 4), (4, 5), (4, 6), (1000, 15), (1000, 32), (1000, 33), (1000, 34)])
def kx191_a : List fx_N := []
def kx191_s : List fx_D := []
def kx191_x : fx_X := ([], [(26, 11, 2), (56, 11, 6), (134, 1, 1)], [], [], [], [(4, 95, 1, kx111_c), (32, 333, 4, kx190_c)])
set_option maxRecDepth 100000 in
theorem kx191_k : fx_chk TX 4 kx191_c 0 kx191_x t_X11_layShortest kx191_a kx191_s 23 = true := by decide +kernel
set_option maxRecDepth 100000 in
theorem kx191 {l : Launch} {E : (Nat → Prop) → State → Prop} {ad : List Nat} {D : va_G} {gs : List Nat} {cy : Nat → ClassId} (h : fxX E D cy) : fx_Met l yX11_layShortest (.code yX11_layShortest cX11_layShortest 4 (some .int) :: wsL_law) ({ frames := 5, cells := 0, slots := 0, locals := 124 }) E (gs, TX, cy, fun _ => True) ad D classes kx191_c :=
  fx_sound (x := kx191_x) (tb := t_X11_layShortest) (an := kx191_a) (sp := kx191_s) (rk := 0) 23 h.1 (fun _ _ _ _ _ _ => trivial) (fun _ _ _ _ _ _ => trivial) (ht_tys cy) (by decide) rfl ⟨fx_an, (fx_ac fl_X11_26 (fx_ac fl_X11_56 (fx_ac fl_X11_134 (fx_an)))), fx_an, fx_an, fx_an, (fx_ac (ev_V (kx111 h) (by decide) rfl ⟨by decide, by decide⟩ iV_X1_clear g_X11_95) (fx_ac (ev_V (kx190 h) (by decide) rfl ⟨by decide, by decide⟩ iV_X4_layShortest g_X11_333) (fx_an)))⟩ d_X11_layShortest kx191_k
-- X11_layShortest 0 64 n 65
def kx192_c : fx_C := ([.inr (.inr 1), .inr (.inr 65), .inr (.inr 0), .inr (.inr 66)], [], [(some (.inl (-1, -1)), [.inr (.inr 1), .inr (.inr 65), .inr (.inr 0), .inr (.inr 66)], [((0, 6), .inr (.inr 13)), ((4, 1), .inl (0, 0))])], [(1, 1)])
def kx192_a : List fx_N := []
def kx192_s : List fx_D := []
def kx192_x : fx_X := ([], [(56, 11, 6)], [], [], [], [(4, 95, 1, kx111_c)])
set_option maxRecDepth 100000 in
theorem kx192_k : fx_chk TX 4 kx192_c 0 kx192_x t_X11_layShortest kx192_a kx192_s 11 = true := by decide +kernel
set_option maxRecDepth 100000 in
theorem kx192 {l : Launch} {E : (Nat → Prop) → State → Prop} {ad : List Nat} {D : va_G} {gs : List Nat} {cy : Nat → ClassId} (h : fxX E D cy) : fx_Met l yX11_layShortest (.code yX11_layShortest cX11_layShortest 4 (some .int) :: wsL_law) ({ frames := 1, cells := 0, slots := 0, locals := 20 }) E (gs, TX, cy, fun _ => True) ad D classes kx192_c :=
  fx_sound (x := kx192_x) (tb := t_X11_layShortest) (an := kx192_a) (sp := kx192_s) (rk := 0) 11 h.1 (fun _ _ _ _ _ _ => trivial) (fun _ _ _ _ _ _ => trivial) (ht_tys cy) (by decide) rfl ⟨fx_an, (fx_ac fl_X11_56 (fx_an)), fx_an, fx_an, fx_an, (fx_ac (ev_V (kx111 h) (by decide) rfl ⟨by decide, by decide⟩ iV_X1_clear g_X11_95) (fx_an))⟩ d_X11_layShortest kx192_k
-- X11_layShortest 0 n 64 65
def kx193_c : fx_C := ([.inr (.inr 1), .inr (.inr 0), .inr (.inr 65), .inr (.inr 66)], [], [(some (.inl (-1, -1)), [.inr (.inr 1), .inr (.inr 0), .inr (.inr 65), .inr (.inr 66)], [((0, 6), .inr (.inr 13)), ((4, 1), .inl (0, 0))])], [(1, 1)])
def kx193_a : List fx_N := []
def kx193_s : List fx_D := []
def kx193_x : fx_X := ([], [(56, 11, 6)], [], [], [], [(4, 95, 1, kx111_c)])
set_option maxRecDepth 100000 in
theorem kx193_k : fx_chk TX 4 kx193_c 0 kx193_x t_X11_layShortest kx193_a kx193_s 9 = true := by decide +kernel
set_option maxRecDepth 100000 in
theorem kx193 {l : Launch} {E : (Nat → Prop) → State → Prop} {ad : List Nat} {D : va_G} {gs : List Nat} {cy : Nat → ClassId} (h : fxX E D cy) : fx_Met l yX11_layShortest (.code yX11_layShortest cX11_layShortest 4 (some .int) :: wsL_law) ({ frames := 1, cells := 0, slots := 0, locals := 20 }) E (gs, TX, cy, fun _ => True) ad D classes kx193_c :=
  fx_sound (x := kx193_x) (tb := t_X11_layShortest) (an := kx193_a) (sp := kx193_s) (rk := 0) 9 h.1 (fun _ _ _ _ _ _ => trivial) (fun _ _ _ _ _ _ => trivial) (ht_tys cy) (by decide) rfl ⟨fx_an, (fx_ac fl_X11_56 (fx_an)), fx_an, fx_an, fx_an, (fx_ac (ev_V (kx111 h) (by decide) rfl ⟨by decide, by decide⟩ iV_X1_clear g_X11_95) (fx_an))⟩ d_X11_layShortest kx193_k
-- X11_layShortest 0 n n 65
def kx194_c : fx_C := ([.inr (.inr 1), .inr (.inr 0), .inr (.inr 0), .inr (.inr 66)], [], [(some (.inl (-1, -1)), [.inr (.inr 1), .inr (.inr 0), .inr (.inr 0), .inr (.inr 66)], [((0, 6), .inr (.inr 13)), ((4, 1), .inl (0, 0))])], [(1, 1)])
def kx194_a : List fx_N := []
def kx194_s : List fx_D := []
def kx194_x : fx_X := ([], [(56, 11, 6)], [], [], [], [(4, 95, 1, kx111_c)])
set_option maxRecDepth 100000 in
theorem kx194_k : fx_chk TX 4 kx194_c 0 kx194_x t_X11_layShortest kx194_a kx194_s 9 = true := by decide +kernel
set_option maxRecDepth 100000 in
theorem kx194 {l : Launch} {E : (Nat → Prop) → State → Prop} {ad : List Nat} {D : va_G} {gs : List Nat} {cy : Nat → ClassId} (h : fxX E D cy) : fx_Met l yX11_layShortest (.code yX11_layShortest cX11_layShortest 4 (some .int) :: wsL_law) ({ frames := 1, cells := 0, slots := 0, locals := 20 }) E (gs, TX, cy, fun _ => True) ad D classes kx194_c :=
  fx_sound (x := kx194_x) (tb := t_X11_layShortest) (an := kx194_a) (sp := kx194_s) (rk := 0) 9 h.1 (fun _ _ _ _ _ _ => trivial) (fun _ _ _ _ _ _ => trivial) (ht_tys cy) (by decide) rfl ⟨fx_an, (fx_ac fl_X11_56 (fx_an)), fx_an, fx_an, fx_an, (fx_ac (ev_V (kx111 h) (by decide) rfl ⟨by decide, by decide⟩ iV_X1_clear g_X11_95) (fx_an))⟩ d_X11_layShortest kx194_k
-- X11_source 0 i i
def kx195_c : fx_C := ([.inr (.inr 1), .inl (-2147483648, 2147483647), .inl (-2147483648, 2147483647)], [], [(some (.inl (0, 24)), [.inr (.inr 1), .inl (0, 4), .inl (0, 4)], [((0, 8), .inr (.inr 9)), ((3, 9), .inl (1, 5))]), (some (.inl (-1, -1)), [.inr (.inr 1), .inl (-2147483648, 2147483647), .inl (-2147483648, 2147483647)], [((0, 6), .inr (.inr 13)), ((3, 1), .inl (0, 0))])], [(1, 1), (4, 4), (4, 5), (4, 6), (1000, 15), (1000, 32), (1000, 33), (1000, 34)])
def kx195_a : List fx_N := []
def kx195_s : List fx_D := []
def kx195_x : fx_X := ([], [(60, 11, 7)], [], [], [], [(3, 127, 11, kx124_c), (8, 127, 11, kx124_c), (15, 203, 11, kx191_c), (15, 203, 11, kx192_c), (15, 203, 11, kx193_c), (15, 203, 11, kx194_c)])
set_option maxRecDepth 100000 in
theorem kx195_k : fx_chk TX 3 kx195_c 0 kx195_x t_X11_source kx195_a kx195_s 13 = true := by decide +kernel
set_option maxRecDepth 100000 in
theorem kx195 {l : Launch} {E : (Nat → Prop) → State → Prop} {ad : List Nat} {D : va_G} {gs : List Nat} {cy : Nat → ClassId} (h : fxX E D cy) : fx_Met l yX11_source (.code yX11_source cX11_source 3 (some .int) :: wsL_law) ({ frames := 6, cells := 0, slots := 0, locals := 147 }) E (gs, TX, cy, fun _ => True) ad D classes kx195_c :=
  fx_sound (x := kx195_x) (tb := t_X11_source) (an := kx195_a) (sp := kx195_s) (rk := 0) 13 h.1 (fun _ _ _ _ _ _ => trivial) (fun _ _ _ _ _ _ => trivial) (ht_tys cy) (by decide) rfl ⟨fx_an, (fx_ac fl_X11_60 (fx_an)), fx_an, fx_an, fx_an, (fx_ac (ev_V (kx124 h) (by decide) rfl ⟨by decide, by decide⟩ iV_X11_slipOf g_X11_127) (fx_ac (ev_V (kx124 h) (by decide) rfl ⟨by decide, by decide⟩ iV_X11_slipOf g_X11_127) (fx_ac (ev_V (kx191 h) (by decide) rfl ⟨by decide, by decide⟩ iV_X11_layShortest g_X11_203) (fx_ac (ev_V (kx192 h) (by decide) rfl ⟨by decide, by decide⟩ iV_X11_layShortest g_X11_203) (fx_ac (ev_V (kx193 h) (by decide) rfl ⟨by decide, by decide⟩ iV_X11_layShortest g_X11_203) (fx_ac (ev_V (kx194 h) (by decide) rfl ⟨by decide, by decide⟩ iV_X11_layShortest g_X11_203) (fx_an)))))))⟩ d_X11_source kx195_k
-- X4_countShortest 3 64 64 65
def kx196_c : fx_C := ([.inr (.inr 4), .inr (.inr 65), .inr (.inr 65), .inr (.inr 66)], [], [(some (.inl (-2147483648, 2147483647)), [.inr (.inr 4), .inr (.inr 65), .inr (.inr 65), .inr (.inr 66)], [])], [(4, 4), (4, 5), (4, 6), (1000, 32), (1000, 33), (1000, 34)])
def kx196_a : List fx_N := []
def kx196_s : List fx_D := []
def kx196_x : fx_X := ([], [(18, 4, 2)], [], [], [], [(4, 93, 4, kx186_c)])
set_option maxRecDepth 100000 in
theorem kx196_k : fx_chk TX 4 kx196_c 0 kx196_x t_X4_countShortest kx196_a kx196_s 12 = true := by decide +kernel
set_option maxRecDepth 100000 in
theorem kx196 {l : Launch} {E : (Nat → Prop) → State → Prop} {ad : List Nat} {D : va_G} {gs : List Nat} {cy : Nat → ClassId} (h : fxX E D cy) : fx_Met l yX4_countShortest (.code yX4_countShortest cX4_countShortest 4 (some .int) :: wsL_law) ({ frames := 4, cells := 0, slots := 0, locals := 97 }) E (gs, TX, cy, fun _ => True) ad D classes kx196_c :=
  fx_sound (x := kx196_x) (tb := t_X4_countShortest) (an := kx196_a) (sp := kx196_s) (rk := 0) 12 h.1 (fun _ _ _ _ _ _ => trivial) (fun _ _ _ _ _ _ => trivial) (ht_tys cy) (by decide) rfl ⟨fx_an, (fx_ac fl_X4_18 (fx_an)), fx_an, fx_an, fx_an, (fx_ac (ev_V (kx186 h) (by decide) rfl ⟨by decide, by decide⟩ iV_X4_fillShortest g_X4_93) (fx_an))⟩ d_X4_countShortest kx196_k
-- X11_sources 0 i i
def kx197_c : fx_C := ([.inr (.inr 1), .inl (-2147483648, 2147483647), .inl (-2147483648, 2147483647)], [], [(some (.inl (-2147483648, 2147483647)), [.inr (.inr 1), .inl (0, 4), .inl (0, 4)], [((0, 8), .inr (.inr 9)), ((3, 9), .inl (1, 5))]), (some (.inl (-1, -1)), [.inr (.inr 1), .inl (-2147483648, 2147483647), .inl (-2147483648, 2147483647)], [])], [(4, 4), (4, 5), (4, 6), (1000, 32), (1000, 33), (1000, 34)])
def kx197_a : List fx_N := []
def kx197_s : List fx_D := []
def kx197_x : fx_X := ([], [(26, 11, 2), (60, 11, 7)], [], [], [], [(2, 127, 11, kx124_c), (8, 127, 11, kx124_c), (37, 207, 4, kx196_c)])
set_option maxRecDepth 100000 in
theorem kx197_k : fx_chk TX 5 kx197_c 0 kx197_x t_X11_sources kx197_a kx197_s 22 = true := by decide +kernel
set_option maxRecDepth 100000 in
theorem kx197 {l : Launch} {E : (Nat → Prop) → State → Prop} {ad : List Nat} {D : va_G} {gs : List Nat} {cy : Nat → ClassId} (h : fxX E D cy) : fx_Met l yX11_sources (.code yX11_sources cX11_sources 5 (some .int) :: wsL_law) ({ frames := 5, cells := 0, slots := 0, locals := 120 }) E (gs, TX, cy, fun _ => True) ad D classes kx197_c :=
  fx_sound (x := kx197_x) (tb := t_X11_sources) (an := kx197_a) (sp := kx197_s) (rk := 0) 22 h.1 (fun _ _ _ _ _ _ => trivial) (fun _ _ _ _ _ _ => trivial) (ht_tys cy) (by decide) rfl ⟨fx_an, (fx_ac fl_X11_26 (fx_ac fl_X11_60 (fx_an))), fx_an, fx_an, fx_an, (fx_ac (ev_V (kx124 h) (by decide) rfl ⟨by decide, by decide⟩ iV_X11_slipOf g_X11_127) (fx_ac (ev_V (kx124 h) (by decide) rfl ⟨by decide, by decide⟩ iV_X11_slipOf g_X11_127) (fx_ac (ev_V (kx196 h) (by decide) rfl ⟨by decide, by decide⟩ iV_X4_countShortest g_X11_207) (fx_an))))⟩ d_X11_sources kx197_k
-- X4_fillShortest 3 64 64 64
def kx198_c : fx_C := ([.inr (.inr 4), .inr (.inr 65), .inr (.inr 65), .inr (.inr 65)], [], [(none, [.inr (.inr 4), .inr (.inr 65), .inr (.inr 65), .inr (.inr 65)], [])], [(4, 4), (4, 5), (4, 6), (1000, 32), (1000, 33), (1000, 34)])
def kx198_a : List fx_N := [(29, [(0, .inr (.inr 4)), (4, .inl (-1, 8))], [], [(0, 0), (2, 1), (0, 1), (0, 0), (0, 0), (0, 0), (0, 0)], [(0, 0)]), (48, [(0, .inr (.inr 4)), (4, .inl (0, 8)), (5, .inl (-1, 8))], [], [(0, 0), (2, 1), (0, 0), (2, 2), (0, 1), (0, 0), (0, 0)], [(0, 0)]), (67, [(0, .inr (.inr 4)), (4, .inl (0, 8)), (5, .inl (0, 8)), (6, .inl (-1, 8))], [], [(0, 0), (2, 1), (0, 0), (2, 2), (0, 0), (2, 3), (0, 0)], [(0, 0)])]
def kx198_s : List fx_D := []
def kx198_x : fx_X := ([], [(29, 4, 4), (33, 4, 5), (36, 4, 6), (39, 1, 1)], [(29, 4, 4, 4), (33, 4, 5, 4), (36, 4, 6, 4)], [], [], [(24, 53, 1002, ([], [], [], [])), (43, 53, 1002, ([], [], [], [])), (62, 53, 1002, ([], [], [], [])), (87, 103, 4, kx185_c)])
set_option maxRecDepth 100000 in
theorem kx198_k : fx_chk TX 7 kx198_c 9 kx198_x t_X4_fillShortest kx198_a kx198_s 18 = true := by decide +kernel
set_option maxRecDepth 100000 in
theorem kx198 {l : Launch} {E : (Nat → Prop) → State → Prop} {ad : List Nat} {D : va_G} {gs : List Nat} {cy : Nat → ClassId} (h : fxX E D cy) : fx_Met l yX4_fillShortest (.code yX4_fillShortest cX4_fillShortest 7 none :: wsL_law) ({ frames := 3, cells := 0, slots := 0, locals := 71 }) E (gs, TX, cy, fun _ => True) ad D classes kx198_c :=
  fx_sound (x := kx198_x) (tb := t_X4_fillShortest) (an := kx198_a) (sp := kx198_s) (rk := 9) 18 h.1 (fun _ _ _ _ _ _ => trivial) (fun _ _ _ _ _ _ => trivial) (ht_tys cy) (by decide) rfl ⟨fx_an, (fx_ac fl_X4_29 (fx_ac fl_X4_33 (fx_ac fl_X4_36 (fx_ac fl_X4_39 (fx_an))))), (fx_ac pl_X4_29 (fx_ac pl_X4_33 (fx_ac pl_X4_36 (fx_an)))), fx_an, fx_an, (fx_ac (ev_M (by decide) ⟨by decide, by decide, m_137, m_1107, m_396, m_397⟩) (fx_ac (ev_M (by decide) ⟨by decide, by decide, m_137, m_1107, m_396, m_397⟩) (fx_ac (ev_M (by decide) ⟨by decide, by decide, m_137, m_1107, m_396, m_397⟩) (fx_ac (ev_V (kx185 h) (by decide) rfl ⟨by decide, by decide⟩ iV_X4_fillCell g_X4_103) (fx_an)))))⟩ d_X4_fillShortest kx198_k
-- X4_layShortest 3 64 64 64 12
def kx199_c : fx_C := ([.inr (.inr 4), .inr (.inr 65), .inr (.inr 65), .inr (.inr 65), .inr (.inr 13)], [], [(none, [.inr (.inr 4), .inr (.inr 65), .inr (.inr 65), .inr (.inr 65), .inr (.inr 13)], [])], [(1, 1), (4, 4), (4, 5), (4, 6), (1000, 15), (1000, 32), (1000, 33), (1000, 34)])
def kx199_a : List fx_N := [(23, [(0, .inr (.inr 4)), (4, .inr (.inr 13)), (5, .inl (0, 728)), (6, .inl (-2147483648, 2147483647))], [], [(0, 0), (2, 3), (0, 0)], [(0, 0), (4, 1)])]
def kx199_s : List fx_D := []
def kx199_x : fx_X := ([], [(15, 4, 1), (21, 4, 3)], [], [], [], [(4, 93, 4, kx198_c), (9, 76, 1, kx111_c), (35, 97, 4, kx187_c), (56, 90, 1, kx189_c), (69, 100, 4, kx184_c)])
set_option maxRecDepth 100000 in
theorem kx199_k : fx_chk TX 8 kx199_c 9 kx199_x t_X4_layShortest kx199_a kx199_s 31 = true := by decide +kernel
set_option maxRecDepth 100000 in
theorem kx199 {l : Launch} {E : (Nat → Prop) → State → Prop} {ad : List Nat} {D : va_G} {gs : List Nat} {cy : Nat → ClassId} (h : fxX E D cy) : fx_Met l yX4_layShortest (.code yX4_layShortest cX4_layShortest 8 none :: wsL_law) ({ frames := 4, cells := 0, slots := 0, locals := 97 }) E (gs, TX, cy, fun _ => True) ad D classes kx199_c :=
  fx_sound (x := kx199_x) (tb := t_X4_layShortest) (an := kx199_a) (sp := kx199_s) (rk := 9) 31 h.1 (fun _ _ _ _ _ _ => trivial) (fun _ _ _ _ _ _ => trivial) (ht_tys cy) (by decide) rfl ⟨fx_an, (fx_ac fl_X4_15 (fx_ac fl_X4_21 (fx_an))), fx_an, fx_an, fx_an, (fx_ac (ev_V (kx198 h) (by decide) rfl ⟨by decide, by decide⟩ iV_X4_fillShortest g_X4_93) (fx_ac (ev_V (kx111 h) (by decide) rfl ⟨by decide, by decide⟩ iV_X1_clear g_X4_76) (fx_ac (ev_V (kx187 h) (by decide) rfl ⟨by decide, by decide⟩ iV_X4_leastStep g_X4_97) (fx_ac (ev_V (kx189 h) (by decide) rfl ⟨by decide, by decide⟩ iV_X1_add g_X4_90) (fx_ac (ev_V (kx184 h) (by decide) rfl ⟨by decide, by decide⟩ iV_X4_cellBehind g_X4_100) (fx_an))))))⟩ d_X4_layShortest kx199_k
-- X11_layShortest 0 64 64 64
def kx200_c : fx_C := ([.inr (.inr 1), .inr (.inr 65), .inr (.inr 65), .inr (.inr 65)], [], [(some (.inl (0, 24)), [.inr (.inr 1), .inr (.inr 65), .inr (.inr 65), .inr (.inr 65)], [])], [(1, 1), (4, 4), (4, 5), (4, 6), (1000, 15), (1000, 32), (1000, 33), (1000, 34)])
def kx200_a : List fx_N := []
def kx200_s : List fx_D := []
def kx200_x : fx_X := ([], [(26, 11, 2), (56, 11, 6), (134, 1, 1)], [], [], [], [(4, 95, 1, kx111_c), (32, 333, 4, kx199_c)])
set_option maxRecDepth 100000 in
theorem kx200_k : fx_chk TX 4 kx200_c 0 kx200_x t_X11_layShortest kx200_a kx200_s 23 = true := by decide +kernel
set_option maxRecDepth 100000 in
theorem kx200 {l : Launch} {E : (Nat → Prop) → State → Prop} {ad : List Nat} {D : va_G} {gs : List Nat} {cy : Nat → ClassId} (h : fxX E D cy) : fx_Met l yX11_layShortest (.code yX11_layShortest cX11_layShortest 4 (some .int) :: wsL_law) ({ frames := 5, cells := 0, slots := 0, locals := 124 }) E (gs, TX, cy, fun _ => True) ad D classes kx200_c :=
  fx_sound (x := kx200_x) (tb := t_X11_layShortest) (an := kx200_a) (sp := kx200_s) (rk := 0) 23 h.1 (fun _ _ _ _ _ _ => trivial) (fun _ _ _ _ _ _ => trivial) (ht_tys cy) (by decide) rfl ⟨fx_an, (fx_ac fl_X11_26 (fx_ac fl_X11_56 (fx_ac fl_X11_134 (fx_an)))), fx_an, fx_an, fx_an, (fx_ac (ev_V (kx111 h) (by decide) rfl ⟨by decide, by decide⟩ iV_X1_clear g_X11_95) (fx_ac (ev_V (kx199 h) (by decide) rfl ⟨by decide, by decide⟩ iV_X4_layShortest g_X11_333) (fx_an)))⟩ d_X11_layShortest kx200_k
-- X11_layShortest 0 64 64 n
def kx201_c : fx_C := ([.inr (.inr 1), .inr (.inr 65), .inr (.inr 65), .inr (.inr 0)], [], [(some (.inl (-1, -1)), [.inr (.inr 1), .inr (.inr 65), .inr (.inr 65), .inr (.inr 0)], [((0, 6), .inr (.inr 13)), ((4, 1), .inl (0, 0))])], [(1, 1)])
def kx201_a : List fx_N := []
def kx201_s : List fx_D := []
def kx201_x : fx_X := ([], [(56, 11, 6)], [], [], [], [(4, 95, 1, kx111_c)])
set_option maxRecDepth 100000 in
theorem kx201_k : fx_chk TX 4 kx201_c 0 kx201_x t_X11_layShortest kx201_a kx201_s 13 = true := by decide +kernel
set_option maxRecDepth 100000 in
theorem kx201 {l : Launch} {E : (Nat → Prop) → State → Prop} {ad : List Nat} {D : va_G} {gs : List Nat} {cy : Nat → ClassId} (h : fxX E D cy) : fx_Met l yX11_layShortest (.code yX11_layShortest cX11_layShortest 4 (some .int) :: wsL_law) ({ frames := 1, cells := 0, slots := 0, locals := 20 }) E (gs, TX, cy, fun _ => True) ad D classes kx201_c :=
  fx_sound (x := kx201_x) (tb := t_X11_layShortest) (an := kx201_a) (sp := kx201_s) (rk := 0) 13 h.1 (fun _ _ _ _ _ _ => trivial) (fun _ _ _ _ _ _ => trivial) (ht_tys cy) (by decide) rfl ⟨fx_an, (fx_ac fl_X11_56 (fx_an)), fx_an, fx_an, fx_an, (fx_ac (ev_V (kx111 h) (by decide) rfl ⟨by decide, by decide⟩ iV_X1_clear g_X11_95) (fx_an))⟩ d_X11_layShortest kx201_k
-- X11_layShortest 0 64 n 64
def kx202_c : fx_C := ([.inr (.inr 1), .inr (.inr 65), .inr (.inr 0), .inr (.inr 65)], [], [(some (.inl (-1, -1)), [.inr (.inr 1), .inr (.inr 65), .inr (.inr 0), .inr (.inr 65)], [((0, 6), .inr (.inr 13)), ((4, 1), .inl (0, 0))])], [(1, 1)])
def kx202_a : List fx_N := []
def kx202_s : List fx_D := []
def kx202_x : fx_X := ([], [(56, 11, 6)], [], [], [], [(4, 95, 1, kx111_c)])
set_option maxRecDepth 100000 in
theorem kx202_k : fx_chk TX 4 kx202_c 0 kx202_x t_X11_layShortest kx202_a kx202_s 11 = true := by decide +kernel
set_option maxRecDepth 100000 in
theorem kx202 {l : Launch} {E : (Nat → Prop) → State → Prop} {ad : List Nat} {D : va_G} {gs : List Nat} {cy : Nat → ClassId} (h : fxX E D cy) : fx_Met l yX11_layShortest (.code yX11_layShortest cX11_layShortest 4 (some .int) :: wsL_law) ({ frames := 1, cells := 0, slots := 0, locals := 20 }) E (gs, TX, cy, fun _ => True) ad D classes kx202_c :=
  fx_sound (x := kx202_x) (tb := t_X11_layShortest) (an := kx202_a) (sp := kx202_s) (rk := 0) 11 h.1 (fun _ _ _ _ _ _ => trivial) (fun _ _ _ _ _ _ => trivial) (ht_tys cy) (by decide) rfl ⟨fx_an, (fx_ac fl_X11_56 (fx_an)), fx_an, fx_an, fx_an, (fx_ac (ev_V (kx111 h) (by decide) rfl ⟨by decide, by decide⟩ iV_X1_clear g_X11_95) (fx_an))⟩ d_X11_layShortest kx202_k
-- X11_layShortest 0 64 n n
def kx203_c : fx_C := ([.inr (.inr 1), .inr (.inr 65), .inr (.inr 0), .inr (.inr 0)], [], [(some (.inl (-1, -1)), [.inr (.inr 1), .inr (.inr 65), .inr (.inr 0), .inr (.inr 0)], [((0, 6), .inr (.inr 13)), ((4, 1), .inl (0, 0))])], [(1, 1)])
def kx203_a : List fx_N := []
def kx203_s : List fx_D := []
def kx203_x : fx_X := ([], [(56, 11, 6)], [], [], [], [(4, 95, 1, kx111_c)])
set_option maxRecDepth 100000 in
theorem kx203_k : fx_chk TX 4 kx203_c 0 kx203_x t_X11_layShortest kx203_a kx203_s 11 = true := by decide +kernel
set_option maxRecDepth 100000 in
theorem kx203 {l : Launch} {E : (Nat → Prop) → State → Prop} {ad : List Nat} {D : va_G} {gs : List Nat} {cy : Nat → ClassId} (h : fxX E D cy) : fx_Met l yX11_layShortest (.code yX11_layShortest cX11_layShortest 4 (some .int) :: wsL_law) ({ frames := 1, cells := 0, slots := 0, locals := 20 }) E (gs, TX, cy, fun _ => True) ad D classes kx203_c :=
  fx_sound (x := kx203_x) (tb := t_X11_layShortest) (an := kx203_a) (sp := kx203_s) (rk := 0) 11 h.1 (fun _ _ _ _ _ _ => trivial) (fun _ _ _ _ _ _ => trivial) (ht_tys cy) (by decide) rfl ⟨fx_an, (fx_ac fl_X11_56 (fx_an)), fx_an, fx_an, fx_an, (fx_ac (ev_V (kx111 h) (by decide) rfl ⟨by decide, by decide⟩ iV_X1_clear g_X11_95) (fx_an))⟩ d_X11_layShortest kx203_k
-- X11_layShortest 0 n 64 64
def kx204_c : fx_C := ([.inr (.inr 1), .inr (.inr 0), .inr (.inr 65), .inr (.inr 65)], [], [(some (.inl (-1, -1)), [.inr (.inr 1), .inr (.inr 0), .inr (.inr 65), .inr (.inr 65)], [((0, 6), .inr (.inr 13)), ((4, 1), .inl (0, 0))])], [(1, 1)])
def kx204_a : List fx_N := []
def kx204_s : List fx_D := []
def kx204_x : fx_X := ([], [(56, 11, 6)], [], [], [], [(4, 95, 1, kx111_c)])
set_option maxRecDepth 100000 in
theorem kx204_k : fx_chk TX 4 kx204_c 0 kx204_x t_X11_layShortest kx204_a kx204_s 9 = true := by decide +kernel
set_option maxRecDepth 100000 in
theorem kx204 {l : Launch} {E : (Nat → Prop) → State → Prop} {ad : List Nat} {D : va_G} {gs : List Nat} {cy : Nat → ClassId} (h : fxX E D cy) : fx_Met l yX11_layShortest (.code yX11_layShortest cX11_layShortest 4 (some .int) :: wsL_law) ({ frames := 1, cells := 0, slots := 0, locals := 20 }) E (gs, TX, cy, fun _ => True) ad D classes kx204_c :=
  fx_sound (x := kx204_x) (tb := t_X11_layShortest) (an := kx204_a) (sp := kx204_s) (rk := 0) 9 h.1 (fun _ _ _ _ _ _ => trivial) (fun _ _ _ _ _ _ => trivial) (ht_tys cy) (by decide) rfl ⟨fx_an, (fx_ac fl_X11_56 (fx_an)), fx_an, fx_an, fx_an, (fx_ac (ev_V (kx111 h) (by decide) rfl ⟨by decide, by decide⟩ iV_X1_clear g_X11_95) (fx_an))⟩ d_X11_layShortest kx204_k
-- X11_layShortest 0 n 64 n
def kx205_c : fx_C := ([.inr (.inr 1), .inr (.inr 0), .inr (.inr 65), .inr (.inr 0)], [], [(some (.inl (-1, -1)), [.inr (.inr 1), .inr (.inr 0), .inr (.inr 65), .inr (.inr 0)], [((0, 6), .inr (.inr 13)), ((4, 1), .inl (0, 0))])], [(1, 1)])
def kx205_a : List fx_N := []
def kx205_s : List fx_D := []
def kx205_x : fx_X := ([], [(56, 11, 6)], [], [], [], [(4, 95, 1, kx111_c)])
set_option maxRecDepth 100000 in
theorem kx205_k : fx_chk TX 4 kx205_c 0 kx205_x t_X11_layShortest kx205_a kx205_s 9 = true := by decide +kernel
set_option maxRecDepth 100000 in
theorem kx205 {l : Launch} {E : (Nat → Prop) → State → Prop} {ad : List Nat} {D : va_G} {gs : List Nat} {cy : Nat → ClassId} (h : fxX E D cy) : fx_Met l yX11_layShortest (.code yX11_layShortest cX11_layShortest 4 (some .int) :: wsL_law) ({ frames := 1, cells := 0, slots := 0, locals := 20 }) E (gs, TX, cy, fun _ => True) ad D classes kx205_c :=
  fx_sound (x := kx205_x) (tb := t_X11_layShortest) (an := kx205_a) (sp := kx205_s) (rk := 0) 9 h.1 (fun _ _ _ _ _ _ => trivial) (fun _ _ _ _ _ _ => trivial) (ht_tys cy) (by decide) rfl ⟨fx_an, (fx_ac fl_X11_56 (fx_an)), fx_an, fx_an, fx_an, (fx_ac (ev_V (kx111 h) (by decide) rfl ⟨by decide, by decide⟩ iV_X1_clear g_X11_95) (fx_an))⟩ d_X11_layShortest kx205_k
-- X11_layShortest 0 n n 64
def kx206_c : fx_C := ([.inr (.inr 1), .inr (.inr 0), .inr (.inr 0), .inr (.inr 65)], [], [(some (.inl (-1, -1)), [.inr (.inr 1), .inr (.inr 0), .inr (.inr 0), .inr (.inr 65)], [((0, 6), .inr (.inr 13)), ((4, 1), .inl (0, 0))])], [(1, 1)])
def kx206_a : List fx_N := []
def kx206_s : List fx_D := []
def kx206_x : fx_X := ([], [(56, 11, 6)], [], [], [], [(4, 95, 1, kx111_c)])
set_option maxRecDepth 100000 in
theorem kx206_k : fx_chk TX 4 kx206_c 0 kx206_x t_X11_layShortest kx206_a kx206_s 9 = true := by decide +kernel
set_option maxRecDepth 100000 in
theorem kx206 {l : Launch} {E : (Nat → Prop) → State → Prop} {ad : List Nat} {D : va_G} {gs : List Nat} {cy : Nat → ClassId} (h : fxX E D cy) : fx_Met l yX11_layShortest (.code yX11_layShortest cX11_layShortest 4 (some .int) :: wsL_law) ({ frames := 1, cells := 0, slots := 0, locals := 20 }) E (gs, TX, cy, fun _ => True) ad D classes kx206_c :=
  fx_sound (x := kx206_x) (tb := t_X11_layShortest) (an := kx206_a) (sp := kx206_s) (rk := 0) 9 h.1 (fun _ _ _ _ _ _ => trivial) (fun _ _ _ _ _ _ => trivial) (ht_tys cy) (by decide) rfl ⟨fx_an, (fx_ac fl_X11_56 (fx_an)), fx_an, fx_an, fx_an, (fx_ac (ev_V (kx111 h) (by decide) rfl ⟨by decide, by decide⟩ iV_X1_clear g_X11_95) (fx_an))⟩ d_X11_layShortest kx206_k
-- X11_layShortest 0 n n n
def kx207_c : fx_C := ([.inr (.inr 1), .inr (.inr 0), .inr (.inr 0), .inr (.inr 0)], [], [(some (.inl (-1, -1)), [.inr (.inr 1), .inr (.inr 0), .inr (.inr 0), .inr (.inr 0)], [((0, 6), .inr (.inr 13)), ((4, 1), .inl (0, 0))])], [(1, 1)])
def kx207_a : List fx_N := []
def kx207_s : List fx_D := []
def kx207_x : fx_X := ([], [(56, 11, 6)], [], [], [], [(4, 95, 1, kx111_c)])
set_option maxRecDepth 100000 in
theorem kx207_k : fx_chk TX 4 kx207_c 0 kx207_x t_X11_layShortest kx207_a kx207_s 9 = true := by decide +kernel
set_option maxRecDepth 100000 in
theorem kx207 {l : Launch} {E : (Nat → Prop) → State → Prop} {ad : List Nat} {D : va_G} {gs : List Nat} {cy : Nat → ClassId} (h : fxX E D cy) : fx_Met l yX11_layShortest (.code yX11_layShortest cX11_layShortest 4 (some .int) :: wsL_law) ({ frames := 1, cells := 0, slots := 0, locals := 20 }) E (gs, TX, cy, fun _ => True) ad D classes kx207_c :=
  fx_sound (x := kx207_x) (tb := t_X11_layShortest) (an := kx207_a) (sp := kx207_s) (rk := 0) 9 h.1 (fun _ _ _ _ _ _ => trivial) (fun _ _ _ _ _ _ => trivial) (ht_tys cy) (by decide) rfl ⟨fx_an, (fx_ac fl_X11_56 (fx_an)), fx_an, fx_an, fx_an, (fx_ac (ev_V (kx111 h) (by decide) rfl ⟨by decide, by decide⟩ iV_X1_clear g_X11_95) (fx_an))⟩ d_X11_layShortest kx207_k
-- X11_three 0 i i i
def kx208_c : fx_C := ([.inr (.inr 1), .inl (-2147483648, 2147483647), .inl (-2147483648, 2147483647), .inl (-2147483648, 2147483647)], [], [(some (.inl (0, 24)), [.inr (.inr 1), .inl (0, 4), .inl (0, 4), .inl (0, 4)], [((0, 8), .inr (.inr 9)), ((4, 9), .inl (1, 5))]), (some (.inl (-1, -1)), [.inr (.inr 1), .inl (-2147483648, 2147483647), .inl (-2147483648, 2147483647), .inl (-2147483648, 2147483647)], [((0, 6), .inr (.inr 13)), ((4, 1), .inl (0, 0))])], [(1, 1), (4, 4), (4, 5), (4, 6), (1000, 15), (1000, 32), (1000, 33), (1000, 34)])
def kx208_a : List fx_N := []
def kx208_s : List fx_D := []
def kx208_x : fx_X := ([], [], [], [], [], [(3, 127, 11, kx124_c), (8, 127, 11, kx124_c), (13, 127, 11, kx124_c), (16, 203, 11, kx200_c), (16, 203, 11, kx201_c), (16, 203, 11, kx202_c), (16, 203, 11, kx203_c), (16, 203, 11, kx204_c), (16, 203, 11, kx205_c), (16, 203, 11, kx206_c), (16, 203, 11, kx207_c)])
set_option maxRecDepth 100000 in
theorem kx208_k : fx_chk TX 4 kx208_c 0 kx208_x t_X11_three kx208_a kx208_s 14 = true := by decide +kernel
set_option maxRecDepth 100000 in
theorem kx208 {l : Launch} {E : (Nat → Prop) → State → Prop} {ad : List Nat} {D : va_G} {gs : List Nat} {cy : Nat → ClassId} (h : fxX E D cy) : fx_Met l yX11_three (.code yX11_three cX11_three 4 (some .int) :: wsL_law) ({ frames := 6, cells := 0, slots := 0, locals := 147 }) E (gs, TX, cy, fun _ => True) ad D classes kx208_c :=
  fx_sound (x := kx208_x) (tb := t_X11_three) (an := kx208_a) (sp := kx208_s) (rk := 0) 14 h.1 (fun _ _ _ _ _ _ => trivial) (fun _ _ _ _ _ _ => trivial) (ht_tys cy) (by decide) rfl ⟨fx_an, fx_an, fx_an, fx_an, fx_an, (fx_ac (ev_V (kx124 h) (by decide) rfl ⟨by decide, by decide⟩ iV_X11_slipOf g_X11_127) (fx_ac (ev_V (kx124 h) (by decide) rfl ⟨by decide, by decide⟩ iV_X11_slipOf g_X11_127) (fx_ac (ev_V (kx124 h) (by decide) rfl ⟨by decide, by decide⟩ iV_X11_slipOf g_X11_127) (fx_ac (ev_V (kx200 h) (by decide) rfl ⟨by decide, by decide⟩ iV_X11_layShortest g_X11_203) (fx_ac (ev_V (kx201 h) (by decide) rfl ⟨by decide, by decide⟩ iV_X11_layShortest g_X11_203) (fx_ac (ev_V (kx202 h) (by decide) rfl ⟨by decide, by decide⟩ iV_X11_layShortest g_X11_203) (fx_ac (ev_V (kx203 h) (by decide) rfl ⟨by decide, by decide⟩ iV_X11_layShortest g_X11_203) (fx_ac (ev_V (kx204 h) (by decide) rfl ⟨by decide, by decide⟩ iV_X11_layShortest g_X11_203) (fx_ac (ev_V (kx205 h) (by decide) rfl ⟨by decide, by decide⟩ iV_X11_layShortest g_X11_203) (fx_ac (ev_V (kx206 h) (by decide) rfl ⟨by decide, by decide⟩ iV_X11_layShortest g_X11_203) (fx_ac (ev_V (kx207 h) (by decide) rfl ⟨by decide, by decide⟩ iV_X11_layShortest g_X11_203) (fx_an))))))))))))⟩ d_X11_three kx208_k
-- X4_isInGrid i i
def kx209_c : fx_C := ([.inl (0, 12), .inl (0, 13)], [], [(some (.inl (1, 1)), [.inl (0, 12), .inl (0, 12)], []), (some (.inl (0, 0)), [.inl (0, 12), .inl (13, 13)], [])], [])
def kx209_a : List fx_N := []
def kx209_s : List fx_D := []
def kx209_x : fx_X := ([], [], [], [], [], [])
set_option maxRecDepth 100000 in
theorem kx209_k : fx_chk TX 2 kx209_c 3 kx209_x t_X4_isInGrid kx209_a kx209_s 15 = true := by decide +kernel
set_option maxRecDepth 100000 in
theorem kx209 {l : Launch} {E : (Nat → Prop) → State → Prop} {ad : List Nat} {D : va_G} {gs : List Nat} {cy : Nat → ClassId} (h : fxX E D cy) : fx_Met l yX4_isInGrid (.code yX4_isInGrid cX4_isInGrid 2 (some .boolean) :: wsL_law) ({ frames := 0, cells := 0, slots := 0, locals := 0 }) E (gs, TX, cy, fun _ => True) ad D classes kx209_c :=
  fx_sound (x := kx209_x) (tb := t_X4_isInGrid) (an := kx209_a) (sp := kx209_s) (rk := 3) 15 h.1 (fun _ _ _ _ _ _ => trivial) (fun _ _ _ _ _ _ => trivial) (ht_tys cy) (by decide) rfl ⟨fx_an, fx_an, fx_an, fx_an, fx_an, fx_an⟩ d_X4_isInGrid kx209_k
-- X4_read 3 i i
def kx210_c : fx_C := ([.inr (.inr 4), .inl (0, 12), .inl (0, 13)], [], [(some (.inl (0, 0)), [.inr (.inr 4), .inl (0, 12), .inl (13, 13)], []), (some (.inl (-2147483648, 2147483647)), [.inr (.inr 4), .inl (0, 12), .inl (0, 12)], [])], [])
def kx210_a : List fx_N := []
def kx210_s : List fx_D := []
def kx210_x : fx_X := ([], [(11, 4, 0)], [], [], [], [(2, 112, 1000, kx209_c)])
set_option maxRecDepth 100000 in
theorem kx210_k : fx_chk TX 3 kx210_c 0 kx210_x t_X4_read kx210_a kx210_s 16 = true := by decide +kernel
set_option maxRecDepth 100000 in
theorem kx210 {l : Launch} {E : (Nat → Prop) → State → Prop} {ad : List Nat} {D : va_G} {gs : List Nat} {cy : Nat → ClassId} (h : fxX E D cy) : fx_Met l yX4_read (.code yX4_read cX4_read 3 (some .int) :: wsL_law) ({ frames := 1, cells := 0, slots := 0, locals := 21 }) E (gs, TX, cy, fun _ => True) ad D classes kx210_c :=
  fx_sound (x := kx210_x) (tb := t_X4_read) (an := kx210_a) (sp := kx210_s) (rk := 0) 16 h.1 (fun _ _ _ _ _ _ => trivial) (fun _ _ _ _ _ _ => trivial) (ht_tys cy) (by decide) rfl ⟨fx_an, (fx_ac fl_X4_11 (fx_an)), fx_an, fx_an, fx_an, (fx_ac (ev_S (kx209 h) ⟨by decide, by decide⟩ iS_X4_isInGrid g_X4_112) (fx_an))⟩ d_X4_read kx210_k
-- X4_longestFrom 3 64 64 i i
def kx211_c : fx_C := ([.inr (.inr 4), .inr (.inr 65), .inr (.inr 65), .inl (0, 8), .inl (0, 8)], [], [(some (.inl (0, 0)), [.inr (.inr 4), .inr (.inr 65), .inr (.inr 65), .inl (0, 8), .inl (0, 8)], []), (some (.inl (-2147483648, 2147483647)), [.inr (.inr 4), .inr (.inr 65), .inr (.inr 65), .inl (0, 8), .inl (0, 8)], [])], [])
def kx211_a : List fx_N := []
def kx211_s : List fx_D := []
def kx211_x : fx_X := ([], [(39, 1, 1)], [], [], [], [(21, 43, 1, kx118_c), (27, 43, 1, kx118_c), (41, 67, 4, kx210_c), (53, 67, 4, kx210_c), (62, 67, 4, kx210_c), (65, 73, 1001, ([], [], [], []))])
set_option maxRecDepth 100000 in
theorem kx211_k : fx_chk TX 5 kx211_c 0 kx211_x t_X4_longestFrom kx211_a kx211_s 31 = true := by decide +kernel
set_option maxRecDepth 100000 in
theorem kx211 {l : Launch} {E : (Nat → Prop) → State → Prop} {ad : List Nat} {D : va_G} {gs : List Nat} {cy : Nat → ClassId} (h : fxX E D cy) : fx_Met l yX4_longestFrom (.code yX4_longestFrom cX4_longestFrom 5 (some .int) :: wsL_law) ({ frames := 2, cells := 0, slots := 0, locals := 43 }) E (gs, TX, cy, fun _ => True) ad D classes kx211_c :=
  fx_sound (x := kx211_x) (tb := t_X4_longestFrom) (an := kx211_a) (sp := kx211_s) (rk := 0) 31 h.1 (fun _ _ _ _ _ _ => trivial) (fun _ _ _ _ _ _ => trivial) (ht_tys cy) (by decide) rfl ⟨fx_an, (fx_ac fl_X4_39 (fx_an)), fx_an, fx_an, fx_an, (fx_ac (ev_V (kx118 h) (by decide) rfl ⟨by decide, by decide⟩ iV_X1_at g_X4_43) (fx_ac (ev_V (kx118 h) (by decide) rfl ⟨by decide, by decide⟩ iV_X1_at g_X4_43) (fx_ac (ev_V (kx210 h) (by decide) rfl ⟨by decide, by decide⟩ iV_X4_read g_X4_67) (fx_ac (ev_V (kx210 h) (by decide) rfl ⟨by decide, by decide⟩ iV_X4_read g_X4_67) (fx_ac (ev_V (kx210 h) (by decide) rfl ⟨by decide, by decide⟩ iV_X4_read g_X4_67) (fx_ac (ev_M (by decide) ⟨by decide, by decide, m_137, m_1253, m_136, m_138⟩) (fx_an)))))))⟩ d_X4_longestFrom kx211_k
-- X4_write 3 i i i
def kx212_c : fx_C := ([.inr (.inr 4), .inl (0, 12), .inl (0, 12), .inl (-2147483648, 2147483647)], [], [(none, [.inr (.inr 4), .inl (0, 12), .inl (0, 12), .inl (-2147483648, 2147483647)], [])], [(1000, 31)])
def kx212_a : List fx_N := []
def kx212_s : List fx_D := []
def kx212_x : fx_X := ([], [(11, 4, 0)], [], [], [], [(2, 112, 1000, kx209_c)])
set_option maxRecDepth 100000 in
theorem kx212_k : fx_chk TX 4 kx212_c 9 kx212_x t_X4_write kx212_a kx212_s 16 = true := by decide +kernel
set_option maxRecDepth 100000 in
theorem kx212 {l : Launch} {E : (Nat → Prop) → State → Prop} {ad : List Nat} {D : va_G} {gs : List Nat} {cy : Nat → ClassId} (h : fxX E D cy) : fx_Met l yX4_write (.code yX4_write cX4_write 4 none :: wsL_law) ({ frames := 1, cells := 0, slots := 0, locals := 21 }) E (gs, TX, cy, fun _ => True) ad D classes kx212_c :=
  fx_sound (x := kx212_x) (tb := t_X4_write) (an := kx212_a) (sp := kx212_s) (rk := 9) 16 h.1 (fun _ _ _ _ _ _ => trivial) (fun _ _ _ _ _ _ => trivial) (ht_tys cy) (by decide) rfl ⟨fx_an, (fx_ac fl_X4_11 (fx_an)), fx_an, fx_an, fx_an, (fx_ac (ev_S (kx209 h) ⟨by decide, by decide⟩ iS_X4_isInGrid g_X4_112) (fx_an))⟩ d_X4_write kx212_k
-- X4_lengthOfLongest 3 64 64
def kx213_c : fx_C := ([.inr (.inr 4), .inr (.inr 65), .inr (.inr 65)], [], [(some (.inl (-2147483648, 2147483647)), [.inr (.inr 4), .inr (.inr 65), .inr (.inr 65)], [])], [(1000, 31)])
def kx213_a : List fx_N := [(5, [(0, .inr (.inr 4)), (1, .inr (.inr 65)), (2, .inr (.inr 65)), (3, .inl (-1, 8))], [], [(0, 0), (2, 3), (0, 1), (0, 0), (0, 0)], [(0, 0), (1, 1), (2, 2)]), (15, [(0, .inr (.inr 4)), (1, .inr (.inr 65)), (2, .inr (.inr 65)), (3, .inl (0, 8)), (4, .inl (-1, 8))], [], [(0, 0), (2, 3), (0, 0), (2, 4), (0, 0)], [(0, 0), (1, 1), (2, 2)])]
def kx213_s : List fx_D := []
def kx213_x : fx_X := ([], [(39, 1, 1)], [], [], [], [(30, 70, 4, kx211_c), (33, 63, 4, kx212_c), (51, 67, 4, kx210_c)])
set_option maxRecDepth 100000 in
theorem kx213_k : fx_chk TX 5 kx213_c 0 kx213_x t_X4_lengthOfLongest kx213_a kx213_s 17 = true := by decide +kernel
set_option maxRecDepth 100000 in
theorem kx213 {l : Launch} {E : (Nat → Prop) → State → Prop} {ad : List Nat} {D : va_G} {gs : List Nat} {cy : Nat → ClassId} (h : fxX E D cy) : fx_Met l yX4_lengthOfLongest (.code yX4_lengthOfLongest cX4_lengthOfLongest 5 (some .int) :: wsL_law) ({ frames := 3, cells := 0, slots := 0, locals := 67 }) E (gs, TX, cy, fun _ => True) ad D classes kx213_c :=
  fx_sound (x := kx213_x) (tb := t_X4_lengthOfLongest) (an := kx213_a) (sp := kx213_s) (rk := 0) 17 h.1 (fun _ _ _ _ _ _ => trivial) (fun _ _ _ _ _ _ => trivial) (ht_tys cy) (by decide) rfl ⟨fx_an, (fx_ac fl_X4_39 (fx_an)), fx_an, fx_an, fx_an, (fx_ac (ev_V (kx211 h) (by decide) rfl ⟨by decide, by decide⟩ iV_X4_longestFrom g_X4_70) (fx_ac (ev_V (kx212 h) (by decide) rfl ⟨by decide, by decide⟩ iV_X4_write g_X4_63) (fx_ac (ev_V (kx210 h) (by decide) rfl ⟨by decide, by decide⟩ iV_X4_read g_X4_67) (fx_an))))⟩ d_X4_lengthOfLongest kx213_k
-- X1_find 64 i i
def kx214_c : fx_C := ([.inr (.inr 65), .inl (0, 8), .inl (0, 8)], [], [(some (.inl (0, 8)), [.inr (.inr 65), .inl (0, 8), .inl (0, 8)], [])], [])
def kx214_a : List fx_N := [(6, [(0, .inr (.inr 65)), (1, .inl (0, 8)), (3, .inl (0, 8))], [], [(0, 0), (1, 2), (0, 0)], [(0, 0), (1, 1)])]
def kx214_s : List fx_D := []
def kx214_x : fx_X := ([], [(21, 1, 1)], [], [], [], [(2, 9, 1001, ([], [], [], [])), (16, 36, 1, kx118_c)])
set_option maxRecDepth 100000 in
theorem kx214_k : fx_chk TX 4 kx214_c 0 kx214_x t_X1_find kx214_a kx214_s 14 = true := by decide +kernel
set_option maxRecDepth 100000 in
theorem kx214 {l : Launch} {E : (Nat → Prop) → State → Prop} {ad : List Nat} {D : va_G} {gs : List Nat} {cy : Nat → ClassId} (h : fxX E D cy) : fx_Met l yX1_find (.code yX1_find cX1_find 4 (some .int) :: wsL_law) ({ frames := 1, cells := 0, slots := 0, locals := 21 }) E (gs, TX, cy, fun _ => True) ad D classes kx214_c :=
  fx_sound (x := kx214_x) (tb := t_X1_find) (an := kx214_a) (sp := kx214_s) (rk := 0) 14 h.1 (fun _ _ _ _ _ _ => trivial) (fun _ _ _ _ _ _ => trivial) (ht_tys cy) (by decide) rfl ⟨fx_an, (fx_ac fl_X1_21 (fx_an)), fx_an, fx_an, fx_an, (fx_ac (ev_M (by decide) ⟨by decide, by decide, m_137, m_135, m_136, m_138⟩) (fx_ac (ev_V (kx118 h) (by decide) rfl ⟨by decide, by decide⟩ iV_X1_at g_X1_36) (fx_an)))⟩ d_X1_find kx214_k
-- X1_has 64 i
def kx215_c : fx_C := ([.inr (.inr 65), .inl (0, 8)], [], [(some (.inl (1, 1)), [.inr (.inr 65), .inl (0, 7)], [((0, 1), .inl (1, 8))]), (some (.inl (0, 0)), [.inr (.inr 65), .inl (0, 8)], [])], [])
def kx215_a : List fx_N := []
def kx215_s : List fx_D := []
def kx215_x : fx_X := ([], [(15, 1, 0), (21, 1, 1)], [], [], [], [])
set_option maxRecDepth 100000 in
theorem kx215_k : fx_chk TX 2 kx215_c 3 kx215_x t_X1_has kx215_a kx215_s 16 = true := by decide +kernel
set_option maxRecDepth 100000 in
theorem kx215 {l : Launch} {E : (Nat → Prop) → State → Prop} {ad : List Nat} {D : va_G} {gs : List Nat} {cy : Nat → ClassId} (h : fxX E D cy) : fx_Met l yX1_has (.code yX1_has cX1_has 2 (some .boolean) :: wsL_law) ({ frames := 0, cells := 0, slots := 0, locals := 0 }) E (gs, TX, cy, fun _ => True) ad D classes kx215_c :=
  fx_sound (x := kx215_x) (tb := t_X1_has) (an := kx215_a) (sp := kx215_s) (rk := 3) 16 h.1 (fun _ _ _ _ _ _ => trivial) (fun _ _ _ _ _ _ => trivial) (ht_tys cy) (by decide) rfl ⟨fx_an, (fx_ac fl_X1_15 (fx_ac fl_X1_21 (fx_an))), fx_an, fx_an, fx_an, fx_an⟩ d_X1_has kx215_k
-- X4_layLongest 3 64 64 12
def kx216_c : fx_C := ([.inr (.inr 4), .inr (.inr 65), .inr (.inr 65), .inr (.inr 13)], [], [(none, [.inr (.inr 4), .inr (.inr 65), .inr (.inr 65), .inr (.inr 13)], [])], [(1, 1), (1000, 15), (1000, 31)])
def kx216_a : List fx_N := [(18, [(0, .inr (.inr 4)), (1, .inr (.inr 65)), (2, .inr (.inr 65)), (3, .inr (.inr 13)), (4, .inl (-2147483648, 2147483647)), (5, .inl (0, 8)), (6, .inl (0, 8))], [], [(0, 0), (2, 4), (0, 1), (0, 0), (0, 0)], [(0, 0), (1, 1), (2, 2), (3, 3)]), (26, [(0, .inr (.inr 4)), (1, .inr (.inr 65)), (2, .inr (.inr 65)), (3, .inr (.inr 13)), (4, .inl (1, 2147483647)), (5, .inl (0, 8)), (6, .inl (0, 8)), (7, .inl (0, 9))], [], [(0, 0), (2, 4), (0, 0), (1, 7), (0, 0)], [(0, 0), (1, 1), (2, 2), (3, 3)])]
def kx216_s : List fx_D := []
def kx216_x : fx_X := ([], [], [], [], [], [(1, 76, 1, kx111_c), (7, 79, 4, kx213_c), (38, 83, 1, kx214_c), (48, 83, 1, kx214_c), (56, 86, 1, kx215_c), (65, 86, 1, kx215_c), (80, 67, 4, kx210_c), (93, 90, 1, kx189_c)])
set_option maxRecDepth 100000 in
theorem kx216_k : fx_chk TX 10 kx216_c 9 kx216_x t_X4_layLongest kx216_a kx216_s 50 = true := by decide +kernel
set_option maxRecDepth 100000 in
theorem kx216 {l : Launch} {E : (Nat → Prop) → State → Prop} {ad : List Nat} {D : va_G} {gs : List Nat} {cy : Nat → ClassId} (h : fxX E D cy) : fx_Met l yX4_layLongest (.code yX4_layLongest cX4_layLongest 10 none :: wsL_law) ({ frames := 4, cells := 0, slots := 0, locals := 91 }) E (gs, TX, cy, fun _ => True) ad D classes kx216_c :=
  fx_sound (x := kx216_x) (tb := t_X4_layLongest) (an := kx216_a) (sp := kx216_s) (rk := 9) 50 h.1 (fun _ _ _ _ _ _ => trivial) (fun _ _ _ _ _ _ => trivial) (ht_tys cy) (by decide) rfl ⟨fx_an, fx_an, fx_an, fx_an, fx_an, (fx_ac (ev_V (kx111 h) (by decide) rfl ⟨by decide, by decide⟩ iV_X1_clear g_X4_76) (fx_ac (ev_V (kx213 h) (by decide) rfl ⟨by decide, by decide⟩ iV_X4_lengthOfLongest g_X4_79) (fx_ac (ev_V (kx214 h) (by decide) rfl ⟨by decide, by decide⟩ iV_X1_find g_X4_83) (fx_ac (ev_V (kx214 h) (by decide) rfl ⟨by decide, by decide⟩ iV_X1_find g_X4_83) (fx_ac (ev_V (kx215 h) (by decide) rfl ⟨by decide, by decide⟩ iV_X1_has g_X4_86) (fx_ac (ev_V (kx215 h) (by decide) rfl ⟨by decide, by decide⟩ iV_X1_has g_X4_86) (fx_ac (ev_V (kx210 h) (by decide) rfl ⟨by decide, by decide⟩ iV_X4_read g_X4_67) (fx_ac (ev_V (kx189 h) (by decide) rfl ⟨by decide, by decide⟩ iV_X1_add g_X4_90) (fx_an)))))))))⟩ d_X4_layLongest kx216_k
-- X11_common 0 i i
def kx217_c : fx_C := ([.inr (.inr 1), .inl (-2147483648, 2147483647), .inl (-2147483648, 2147483647)], [], [(some (.inl (0, 24)), [.inr (.inr 1), .inl (0, 4), .inl (0, 4)], [((0, 8), .inr (.inr 9)), ((3, 9), .inl (1, 5))]), (some (.inl (-1, -1)), [.inr (.inr 1), .inl (-2147483648, 2147483647), .inl (-2147483648, 2147483647)], [((0, 6), .inr (.inr 13)), ((3, 1), .inl (0, 0))])], [(1, 1), (1000, 15), (1000, 31)])
def kx217_a : List fx_N := []
def kx217_s : List fx_D := []
def kx217_x : fx_X := ([], [(26, 11, 2), (56, 11, 6), (134, 1, 1)], [], [], [], [(4, 95, 1, kx111_c), (9, 127, 11, kx124_c), (15, 127, 11, kx124_c), (42, 210, 4, kx216_c)])
set_option maxRecDepth 100000 in
theorem kx217_k : fx_chk TX 5 kx217_c 0 kx217_x t_X11_common kx217_a kx217_s 28 = true := by decide +kernel
set_option maxRecDepth 100000 in
theorem kx217 {l : Launch} {E : (Nat → Prop) → State → Prop} {ad : List Nat} {D : va_G} {gs : List Nat} {cy : Nat → ClassId} (h : fxX E D cy) : fx_Met l yX11_common (.code yX11_common cX11_common 5 (some .int) :: wsL_law) ({ frames := 5, cells := 0, slots := 0, locals := 120 }) E (gs, TX, cy, fun _ => True) ad D classes kx217_c :=
  fx_sound (x := kx217_x) (tb := t_X11_common) (an := kx217_a) (sp := kx217_s) (rk := 0) 28 h.1 (fun _ _ _ _ _ _ => trivial) (fun _ _ _ _ _ _ => trivial) (ht_tys cy) (by decide) rfl ⟨fx_an, (fx_ac fl_X11_26 (fx_ac fl_X11_56 (fx_ac fl_X11_134 (fx_an)))), fx_an, fx_an, fx_an, (fx_ac (ev_V (kx111 h) (by decide) rfl ⟨by decide, by decide⟩ iV_X1_clear g_X11_95) (fx_ac (ev_V (kx124 h) (by decide) rfl ⟨by decide, by decide⟩ iV_X11_slipOf g_X11_127) (fx_ac (ev_V (kx124 h) (by decide) rfl ⟨by decide, by decide⟩ iV_X11_slipOf g_X11_127) (fx_ac (ev_V (kx216 h) (by decide) rfl ⟨by decide, by decide⟩ iV_X4_layLongest g_X11_210) (fx_an)))))⟩ d_X11_common kx217_k
-- X11_canLeaveOut 0 i
def kx218_c : fx_C := ([.inr (.inr 1), .inl (-2147483648, 2147483647)], [], [(some (.inl (1, 1)), [.inr (.inr 1), .inl (0, 4)], [((0, 1), .inr (.inr 3)), ((2, 0), .inr (.inr 11)), ((3, 0), .inr (.inr 12)), ((4, 1), .inl (1, 12))]), (some (.inl (0, 0)), [.inr (.inr 1), .inl (-2147483648, 2147483647)], [])], [])
def kx218_a : List fx_N := []
def kx218_s : List fx_D := []
def kx218_x : fx_X := ([], [(19, 11, 1), (114, 5, 0), (118, 8, 0), (134, 1, 1)], [], [], [], [])
set_option maxRecDepth 100000 in
theorem kx218_k : fx_chk TX 2 kx218_c 3 kx218_x t_X11_canLeaveOut kx218_a kx218_s 17 = true := by decide +kernel
set_option maxRecDepth 100000 in
theorem kx218 {l : Launch} {E : (Nat → Prop) → State → Prop} {ad : List Nat} {D : va_G} {gs : List Nat} {cy : Nat → ClassId} (h : fxX E D cy) : fx_Met l yX11_canLeaveOut (.code yX11_canLeaveOut cX11_canLeaveOut 2 (some .boolean) :: wsL_law) ({ frames := 0, cells := 0, slots := 0, locals := 0 }) E (gs, TX, cy, fun _ => True) ad D classes kx218_c :=
  fx_sound (x := kx218_x) (tb := t_X11_canLeaveOut) (an := kx218_a) (sp := kx218_s) (rk := 3) 17 h.1 (fun _ _ _ _ _ _ => trivial) (fun _ _ _ _ _ _ => trivial) (ht_tys cy) (by decide) rfl ⟨fx_an, (fx_ac fl_X11_19 (fx_ac fl_X11_114 (fx_ac fl_X11_118 (fx_ac fl_X11_134 (fx_an))))), fx_an, fx_an, fx_an, fx_an⟩ d_X11_canLeaveOut kx218_k
-- X2_lastSet 11
def kx219_c : fx_C := ([.inr (.inr 12)], [], [(some (.inl (0, 4095)), [.inr (.inr 12)], [])], [])
def kx219_a : List fx_N := []
def kx219_s : List fx_D := []
def kx219_x : fx_X := ([], [(37, 1, 1)], [], [], [], [(7, 64, 1002, ([], [], [], []))])
set_option maxRecDepth 100000 in
theorem kx219_k : fx_chk TX 1 kx219_c 0 kx219_x t_X2_lastSet kx219_a kx219_s 11 = true := by decide +kernel
set_option maxRecDepth 100000 in
theorem kx219 {l : Launch} {E : (Nat → Prop) → State → Prop} {ad : List Nat} {D : va_G} {gs : List Nat} {cy : Nat → ClassId} (h : fxX E D cy) : fx_Met l yX2_lastSet (.code yX2_lastSet cX2_lastSet 1 (some .int) :: wsL_law) ({ frames := 1, cells := 0, slots := 0, locals := 21 }) E (gs, TX, cy, fun _ => True) ad D classes kx219_c :=
  fx_sound (x := kx219_x) (tb := t_X2_lastSet) (an := kx219_a) (sp := kx219_s) (rk := 0) 11 h.1 (fun _ _ _ _ _ _ => trivial) (fun _ _ _ _ _ _ => trivial) (ht_tys cy) (by decide) rfl ⟨fx_an, (fx_ac fl_X2_37 (fx_an)), fx_an, fx_an, fx_an, (fx_ac (ev_M (by decide) ⟨by decide, by decide, m_137, m_1296, m_396, m_397⟩) (fx_an))⟩ d_X2_lastSet kx219_k
-- J6_bitCount_0f7a4 i
def kx220_c : fx_C := ([.inl (0, 4095)], [], [(some (.inl (0, 63)), [.inl (0, 4095)], [])], [])
def kx220_a : List fx_N := []
def kx220_s : List fx_D := []
def kx220_x : fx_X := ([], [], [], [(265, 1431655765), (266, 858993459), (267, 252645135)], [], [])
set_option maxRecDepth 100000 in
theorem kx220_k : fx_chk TX 1 kx220_c 0 kx220_x t_J6_bitCount_0f7a4 kx220_a kx220_s 44 = true := by decide +kernel
set_option maxRecDepth 100000 in
theorem kx220 {l : Launch} {E : (Nat → Prop) → State → Prop} {ad : List Nat} {D : va_G} {gs : List Nat} {cy : Nat → ClassId} (h : fxX E D cy) : fx_Met l yJ6_bitCount_0f7a4 (.code yJ6_bitCount_0f7a4 cJ6_bitCount_0f7a4 1 (some .int) :: wsL_law) ({ frames := 0, cells := 0, slots := 0, locals := 0 }) E (gs, TX, cy, fun _ => True) ad D classes kx220_c :=
  fx_sound (x := kx220_x) (tb := t_J6_bitCount_0f7a4) (an := kx220_a) (sp := kx220_s) (rk := 0) 44 h.1 (fun _ _ _ _ _ _ => trivial) (fun _ _ _ _ _ _ => trivial) (ht_tys cy) (by decide) rfl ⟨fx_an, fx_an, fx_an, (fx_ac kc_J6_265 (fx_ac kc_J6_266 (fx_ac kc_J6_267 (fx_an)))), fx_an, fx_an⟩ d_J6_bitCount_0f7a4 kx220_k
-- X2_bitOf 11 i ('c', 0) ('any',)
def kx221_c : fx_C := ([.inr (.inr 12), .inl (0, 0)], [((0, 1), .inl (0, 12))], [(some (.inl (-2147483648, 2147483647)), [.inr (.inr 12), .inl (0, 0)], [])], [])
def kx221_a : List fx_N := []
def kx221_s : List fx_D := []
def kx221_x : fx_X := ([], [(37, 1, 1)], [], [], [], [])
set_option maxRecDepth 100000 in
theorem kx221_k : fx_chk TX 2 kx221_c 0 kx221_x t_X2_bitOf kx221_a kx221_s 11 = true := by decide +kernel
set_option maxRecDepth 100000 in
theorem kx221 {l : Launch} {E : (Nat → Prop) → State → Prop} {ad : List Nat} {D : va_G} {gs : List Nat} {cy : Nat → ClassId} (h : fxX E D cy) : fx_Met l yX2_bitOf (.code yX2_bitOf cX2_bitOf 2 (some .int) :: wsL_law) ({ frames := 0, cells := 0, slots := 0, locals := 0 }) E (gs, TX, cy, fun _ => True) ad D classes kx221_c :=
  fx_sound (x := kx221_x) (tb := t_X2_bitOf) (an := kx221_a) (sp := kx221_s) (rk := 0) 11 h.1 (fun _ _ _ _ _ _ => trivial) (fun _ _ _ _ _ _ => trivial) (ht_tys cy) (by decide) rfl ⟨fx_an, (fx_ac fl_X2_37 (fx_an)), fx_an, fx_an, fx_an, fx_an⟩ d_X2_bitOf kx221_k
-- X2_senseWithout 4 8 11 i
def kx222_c : fx_C := ([.inr (.inr 5), .inr (.inr 9), .inr (.inr 12), .inl (0, 4095)], [], [(some (.inl (-2147483648, 2147483647)), [.inr (.inr 5), .inr (.inr 9), .inr (.inr 12), .inl (0, 4095)], [])], [])
def kx222_a : List fx_N := [(16, [(1, .inr (.inr 9)), (2, .inr (.inr 12)), (3, .inl (0, 4095)), (4, .inl (-2147483648, 2147483647)), (5, .inl (-2147483648, 2147483647)), (6, .inl (-2147483648, 2147483647)), (7, .inl (0, 12))], [], [(0, 0), (1, 6), (0, 0)], [(1, 0), (2, 1), (3, 2)])]
def kx222_s : List fx_D := []
def kx222_x : fx_X := ([], [(37, 1, 1)], [], [], [], [(8, 43, 1000, kx221_c), (35, 48, 1, kx112_c), (47, 51, 10, kx130_c)])
set_option maxRecDepth 100000 in
theorem kx222_k : fx_chk TX 9 kx222_c 0 kx222_x t_X2_senseWithout kx222_a kx222_s 30 = true := by decide +kernel
set_option maxRecDepth 100000 in
theorem kx222 {l : Launch} {E : (Nat → Prop) → State → Prop} {ad : List Nat} {D : va_G} {gs : List Nat} {cy : Nat → ClassId} (h : fxX E D cy) : fx_Met l yX2_senseWithout (.code yX2_senseWithout cX2_senseWithout 9 (some .int) :: wsL_law) ({ frames := 2, cells := 0, slots := 0, locals := 43 }) E (gs, TX, cy, fun _ => True) ad D classes kx222_c :=
  fx_sound (x := kx222_x) (tb := t_X2_senseWithout) (an := kx222_a) (sp := kx222_s) (rk := 0) 30 h.1 (fun _ _ _ _ _ _ => trivial) (fun _ _ _ _ _ _ => trivial) (ht_tys cy) (by decide) rfl ⟨fx_an, (fx_ac fl_X2_37 (fx_an)), fx_an, fx_an, fx_an, (fx_ac (ev_S (kx221 h) ⟨by decide, by decide⟩ iS_X2_bitOf g_X2_43) (fx_ac (ev_V (kx112 h) (by decide) rfl ⟨by decide, by decide⟩ iV_X1_at g_X2_48) (fx_ac (ev_V (kx130 h) (by decide) rfl ⟨by decide, by decide⟩ iV_X10_weightOf g_X2_51) (fx_an))))⟩ d_X2_senseWithout kx222_k
-- X2_bitOf 11 i ('any',) ('any',)
def kx223_c : fx_C := ([.inr (.inr 12), .inl (0, 11)], [((0, 1), .inl (1, 12))], [(some (.inl (-2147483648, 2147483647)), [.inr (.inr 12), .inl (0, 11)], [])], [])
def kx223_a : List fx_N := []
def kx223_s : List fx_D := []
def kx223_x : fx_X := ([], [(37, 1, 1)], [], [], [], [])
set_option maxRecDepth 100000 in
theorem kx223_k : fx_chk TX 2 kx223_c 0 kx223_x t_X2_bitOf kx223_a kx223_s 11 = true := by decide +kernel
set_option maxRecDepth 100000 in
theorem kx223 {l : Launch} {E : (Nat → Prop) → State → Prop} {ad : List Nat} {D : va_G} {gs : List Nat} {cy : Nat → ClassId} (h : fxX E D cy) : fx_Met l yX2_bitOf (.code yX2_bitOf cX2_bitOf 2 (some .int) :: wsL_law) ({ frames := 0, cells := 0, slots := 0, locals := 0 }) E (gs, TX, cy, fun _ => True) ad D classes kx223_c :=
  fx_sound (x := kx223_x) (tb := t_X2_bitOf) (an := kx223_a) (sp := kx223_s) (rk := 0) 11 h.1 (fun _ _ _ _ _ _ => trivial) (fun _ _ _ _ _ _ => trivial) (ht_tys cy) (by decide) rfl ⟨fx_an, (fx_ac fl_X2_37 (fx_an)), fx_an, fx_an, fx_an, fx_an⟩ d_X2_bitOf kx223_k
-- X2_layPlaces 11 i 12
def kx224_c : fx_C := ([.inr (.inr 12), .inl (-1, 4095), .inr (.inr 13)], [], [(none, [.inr (.inr 12), .inl (-1, 4095), .inr (.inr 13)], [])], [(1, 1), (1000, 15)])
def kx224_a : List fx_N := [(6, [(0, .inr (.inr 12)), (1, .inl (-1, 4095)), (2, .inr (.inr 13)), (3, .inl (0, 12))], [], [(0, 0), (1, 3), (0, 0)], [(0, 0), (1, 1), (2, 2)])]
def kx224_s : List fx_D := []
def kx224_x : fx_X := ([], [(37, 1, 1)], [], [], [], [(1, 57, 1, kx111_c), (22, 43, 1000, kx223_c), (31, 60, 1, kx189_c)])
set_option maxRecDepth 100000 in
theorem kx224_k : fx_chk TX 4 kx224_c 9 kx224_x t_X2_layPlaces kx224_a kx224_s 21 = true := by decide +kernel
set_option maxRecDepth 100000 in
theorem kx224 {l : Launch} {E : (Nat → Prop) → State → Prop} {ad : List Nat} {D : va_G} {gs : List Nat} {cy : Nat → ClassId} (h : fxX E D cy) : fx_Met l yX2_layPlaces (.code yX2_layPlaces cX2_layPlaces 4 none :: wsL_law) ({ frames := 2, cells := 0, slots := 0, locals := 41 }) E (gs, TX, cy, fun _ => True) ad D classes kx224_c :=
  fx_sound (x := kx224_x) (tb := t_X2_layPlaces) (an := kx224_a) (sp := kx224_s) (rk := 9) 21 h.1 (fun _ _ _ _ _ _ => trivial) (fun _ _ _ _ _ _ => trivial) (ht_tys cy) (by decide) rfl ⟨fx_an, (fx_ac fl_X2_37 (fx_an)), fx_an, fx_an, fx_an, (fx_ac (ev_V (kx111 h) (by decide) rfl ⟨by decide, by decide⟩ iV_X1_clear g_X2_57) (fx_ac (ev_S (kx223 h) ⟨by decide, by decide⟩ iS_X2_bitOf g_X2_43) (fx_ac (ev_V (kx189 h) (by decide) rfl ⟨by decide, by decide⟩ iV_X1_add g_X2_60) (fx_an))))⟩ d_X2_layPlaces kx224_k
-- X2_layBest 4 8 11 i i 12
def kx225_c : fx_C := ([.inr (.inr 5), .inr (.inr 9), .inr (.inr 12), .inl (0, 4), .inl (0, 1), .inr (.inr 13)], [], [(some (.inl (-2147483648, 2147483647)), [.inr (.inr 5), .inr (.inr 9), .inr (.inr 12), .inl (0, 4), .inl (0, 1), .inr (.inr 13)], [])], [(1, 1), (1000, 15)])
def kx225_a : List fx_N := [(12, [(0, .inr (.inr 5)), (1, .inr (.inr 9)), (2, .inr (.inr 12)), (3, .inl (0, 4)), (4, .inl (0, 1)), (5, .inr (.inr 13)), (6, .inl (-1, 4095)), (7, .inl (-2147483648, 2147483647)), (8, .inl (-1, 4095))], [], [(0, 0), (2, 8), (0, 0)], [(0, 0), (1, 1), (2, 2), (3, 3), (4, 4), (5, 5)])]
def kx225_s : List fx_D := []
def kx225_x : fx_X := ([], [], [], [], [], [(7, 15, 1000, kx219_c), (19, 19, 1000, kx220_c), (31, 25, 2, kx222_c), (83, 29, 1000, kx224_c)])
set_option maxRecDepth 100000 in
theorem kx225_k : fx_chk TX 10 kx225_c 0 kx225_x t_X2_layBest kx225_a kx225_s 30 = true := by decide +kernel
set_option maxRecDepth 100000 in
theorem kx225 {l : Launch} {E : (Nat → Prop) → State → Prop} {ad : List Nat} {D : va_G} {gs : List Nat} {cy : Nat → ClassId} (h : fxX E D cy) : fx_Met l yX2_layBest (.code yX2_layBest cX2_layBest 10 (some .int) :: wsL_law) ({ frames := 3, cells := 0, slots := 0, locals := 71 }) E (gs, TX, cy, fun _ => True) ad D classes kx225_c :=
  fx_sound (x := kx225_x) (tb := t_X2_layBest) (an := kx225_a) (sp := kx225_s) (rk := 0) 30 h.1 (fun _ _ _ _ _ _ => trivial) (fun _ _ _ _ _ _ => trivial) (ht_tys cy) (by decide) rfl ⟨fx_an, fx_an, fx_an, fx_an, fx_an, (fx_ac (ev_S (kx219 h) ⟨by decide, by decide⟩ iS_X2_lastSet g_X2_15) (fx_ac (ev_S (kx220 h) ⟨by decide, by decide⟩ iS_J6_bitCount_0f7a4 g_X2_19) (fx_ac (ev_V (kx222 h) (by decide) rfl ⟨by decide, by decide⟩ iV_X2_senseWithout g_X2_25) (fx_ac (ev_S (kx224 h) ⟨by decide, by decide⟩ iS_X2_layPlaces g_X2_29) (fx_an)))))⟩ d_X2_layBest kx225_k
-- X11_keep 0 i i
def kx226_c : fx_C := ([.inr (.inr 1), .inl (-2147483648, 2147483647), .inl (-2147483648, 2147483647)], [], [(some (.inl (-1000000, -1000000)), [.inr (.inr 1), .inl (-2147483648, 2147483647), .inl (-2147483648, 2147483647)], [((0, 6), .inr (.inr 13)), ((3, 1), .inl (0, 0))]), (some (.inl (-2147483648, 2147483647)), [.inr (.inr 1), .inl (0, 4), .inl (0, 1)], [])], [(1, 1), (1000, 15)])
def kx226_a : List fx_N := []
def kx226_s : List fx_D := []
def kx226_x : fx_X := ([], [(19, 11, 1), (33, 11, 3), (56, 11, 6), (66, 11, 8), (114, 5, 0), (118, 8, 0)], [], [(147, -1000000)], [], [(4, 95, 1, kx111_c), (9, 214, 11, kx218_c), (16, 193, 1000, kx176_c), (57, 217, 2, kx225_c)])
set_option maxRecDepth 100000 in
theorem kx226_k : fx_chk TX 3 kx226_c 0 kx226_x t_X11_keep kx226_a kx226_s 29 = true := by decide +kernel
set_option maxRecDepth 100000 in
theorem kx226 {l : Launch} {E : (Nat → Prop) → State → Prop} {ad : List Nat} {D : va_G} {gs : List Nat} {cy : Nat → ClassId} (h : fxX E D cy) : fx_Met l yX11_keep (.code yX11_keep cX11_keep 3 (some .int) :: wsL_law) ({ frames := 4, cells := 0, slots := 0, locals := 100 }) E (gs, TX, cy, fun _ => True) ad D classes kx226_c :=
  fx_sound (x := kx226_x) (tb := t_X11_keep) (an := kx226_a) (sp := kx226_s) (rk := 0) 29 h.1 (fun _ _ _ _ _ _ => trivial) (fun _ _ _ _ _ _ => trivial) (ht_tys cy) (by decide) rfl ⟨fx_an, (fx_ac fl_X11_19 (fx_ac fl_X11_33 (fx_ac fl_X11_56 (fx_ac fl_X11_66 (fx_ac fl_X11_114 (fx_ac fl_X11_118 (fx_an))))))), fx_an, (fx_ac kc_X11_147 (fx_an)), fx_an, (fx_ac (ev_V (kx111 h) (by decide) rfl ⟨by decide, by decide⟩ iV_X1_clear g_X11_95) (fx_ac (ev_V (kx218 h) (by decide) rfl ⟨by decide, by decide⟩ iV_X11_canLeaveOut g_X11_214) (fx_ac (ev_S (kx176 h) ⟨by decide, by decide⟩ iS_X11_isPart g_X11_193) (fx_ac (ev_V (kx225 h) (by decide) rfl ⟨by decide, by decide⟩ iV_X2_layBest g_X11_217) (fx_an)))))⟩ d_X11_keep kx226_k
-- X2_sumOfSenses 4 8 11 i
def kx227_c : fx_C := ([.inr (.inr 5), .inr (.inr 9), .inr (.inr 12), .inl (0, 4)], [], [(some (.inl (-2147483648, 2147483647)), [.inr (.inr 5), .inr (.inr 9), .inr (.inr 12), .inl (0, 4)], [])], [])
def kx227_a : List fx_N := [(9, [(0, .inr (.inr 5)), (1, .inr (.inr 9)), (2, .inr (.inr 12)), (3, .inl (0, 4)), (4, .inl (-2147483648, 2147483647)), (5, .inl (-1, 4095))], [], [(0, 0), (2, 5), (0, 0)], [(0, 0), (1, 1), (2, 2), (3, 3)])]
def kx227_s : List fx_D := []
def kx227_x : fx_X := ([], [], [], [], [], [(4, 15, 1000, kx219_c), (16, 19, 1000, kx220_c), (30, 25, 2, kx222_c)])
set_option maxRecDepth 100000 in
theorem kx227_k : fx_chk TX 6 kx227_c 0 kx227_x t_X2_sumOfSenses kx227_a kx227_s 19 = true := by decide +kernel
set_option maxRecDepth 100000 in
theorem kx227 {l : Launch} {E : (Nat → Prop) → State → Prop} {ad : List Nat} {D : va_G} {gs : List Nat} {cy : Nat → ClassId} (h : fxX E D cy) : fx_Met l yX2_sumOfSenses (.code yX2_sumOfSenses cX2_sumOfSenses 6 (some .int) :: wsL_law) ({ frames := 3, cells := 0, slots := 0, locals := 71 }) E (gs, TX, cy, fun _ => True) ad D classes kx227_c :=
  fx_sound (x := kx227_x) (tb := t_X2_sumOfSenses) (an := kx227_a) (sp := kx227_s) (rk := 0) 19 h.1 (fun _ _ _ _ _ _ => trivial) (fun _ _ _ _ _ _ => trivial) (ht_tys cy) (by decide) rfl ⟨fx_an, fx_an, fx_an, fx_an, fx_an, (fx_ac (ev_S (kx219 h) ⟨by decide, by decide⟩ iS_X2_lastSet g_X2_15) (fx_ac (ev_S (kx220 h) ⟨by decide, by decide⟩ iS_J6_bitCount_0f7a4 g_X2_19) (fx_ac (ev_V (kx222 h) (by decide) rfl ⟨by decide, by decide⟩ iV_X2_senseWithout g_X2_25) (fx_an))))⟩ d_X2_sumOfSenses kx227_k
-- X11_mean 0 i i
def kx228_c : fx_C := ([.inr (.inr 1), .inl (-2147483648, 2147483647), .inl (-2147483648, 2147483647)], [], [(some (.inl (-1000000, -1000000)), [.inr (.inr 1), .inl (-2147483648, 2147483647), .inl (-2147483648, 2147483647)], []), (some (.inl (-2147483648, 2147483647)), [.inr (.inr 1), .inl (0, 4), .inl (0, 1)], [((0, 1), .inr (.inr 3)), ((3, 0), .inr (.inr 11)), ((4, 0), .inr (.inr 12)), ((5, 1), .inl (1, 12))])], [])
def kx228_a : List fx_N := []
def kx228_s : List fx_D := []
def kx228_x : fx_X := ([], [(19, 11, 1), (33, 11, 3), (66, 11, 8), (114, 5, 0), (118, 8, 0), (134, 1, 1)], [], [(147, -1000000)], [], [(2, 214, 11, kx218_c), (9, 193, 1000, kx176_c), (39, 221, 2, kx227_c), (47, 196, 1000, kx177_c), (51, 199, 1000, kx179_c)])
set_option maxRecDepth 100000 in
theorem kx228_k : fx_chk TX 4 kx228_c 0 kx228_x t_X11_mean kx228_a kx228_s 28 = true := by decide +kernel
set_option maxRecDepth 100000 in
theorem kx228 {l : Launch} {E : (Nat → Prop) → State → Prop} {ad : List Nat} {D : va_G} {gs : List Nat} {cy : Nat → ClassId} (h : fxX E D cy) : fx_Met l yX11_mean (.code yX11_mean cX11_mean 4 (some .int) :: wsL_law) ({ frames := 4, cells := 0, slots := 0, locals := 96 }) E (gs, TX, cy, fun _ => True) ad D classes kx228_c :=
  fx_sound (x := kx228_x) (tb := t_X11_mean) (an := kx228_a) (sp := kx228_s) (rk := 0) 28 h.1 (fun _ _ _ _ _ _ => trivial) (fun _ _ _ _ _ _ => trivial) (ht_tys cy) (by decide) rfl ⟨fx_an, (fx_ac fl_X11_19 (fx_ac fl_X11_33 (fx_ac fl_X11_66 (fx_ac fl_X11_114 (fx_ac fl_X11_118 (fx_ac fl_X11_134 (fx_an))))))), fx_an, (fx_ac kc_X11_147 (fx_an)), fx_an, (fx_ac (ev_V (kx218 h) (by decide) rfl ⟨by decide, by decide⟩ iV_X11_canLeaveOut g_X11_214) (fx_ac (ev_S (kx176 h) ⟨by decide, by decide⟩ iS_X11_isPart g_X11_193) (fx_ac (ev_V (kx227 h) (by decide) rfl ⟨by decide, by decide⟩ iV_X2_sumOfSenses g_X11_221) (fx_ac (ev_S (kx177 h) ⟨by decide, by decide⟩ iS_X11_choices g_X11_196) (fx_ac (ev_S (kx179 h) ⟨by decide, by decide⟩ iS_X11_lowest g_X11_199) (fx_an))))))⟩ d_X11_mean kx228_k
-- X2_bestTurn 4 11 i i ('c', 0)
def kx229_c : fx_C := ([.inr (.inr 5), .inr (.inr 12), .inl (0, 4095), .inl (0, 1)], [((1, 1), .inl (0, 0))], [(some (.inl (0, 0)), [.inr (.inr 5), .inr (.inr 12), .inl (0, 4095), .inl (0, 1)], [])], [])
def kx229_a : List fx_N := [(9, [(6, .inl (0, 0)), (0, .inr (.inr 5)), (1, .inr (.inr 12)), (2, .inl (0, 4095)), (3, .inl (0, 1)), (4, .inl (0, 0)), (5, .inl (0, 0))], [((2, 1), .inl (0, 0))], [(0, 0)], [(0, 1), (1, 2), (2, 3), (3, 4)])]
def kx229_s : List fx_D := []
def kx229_x : fx_X := ([], [(37, 1, 1)], [], [], [], [])
set_option maxRecDepth 100000 in
theorem kx229_k : fx_chk TX 9 kx229_c 0 kx229_x t_X2_bestTurn kx229_a kx229_s 9 = true := by decide +kernel
set_option maxRecDepth 100000 in
theorem kx229 {l : Launch} {E : (Nat → Prop) → State → Prop} {ad : List Nat} {D : va_G} {gs : List Nat} {cy : Nat → ClassId} (h : fxX E D cy) : fx_Met l yX2_bestTurn (.code yX2_bestTurn cX2_bestTurn 9 (some .int) :: wsL_law) ({ frames := 0, cells := 0, slots := 0, locals := 0 }) E (gs, TX, cy, fun _ => True) ad D classes kx229_c :=
  fx_sound (x := kx229_x) (tb := t_X2_bestTurn) (an := kx229_a) (sp := kx229_s) (rk := 0) 9 h.1 (fun _ _ _ _ _ _ => trivial) (fun _ _ _ _ _ _ => trivial) (ht_tys cy) (by decide) rfl ⟨fx_an, (fx_ac fl_X2_37 (fx_an)), fx_an, fx_an, fx_an, fx_an⟩ d_X2_bestTurn kx229_k
-- X2_bitOf 11 i ('c', 0) ('c', 1)
def kx230_c : fx_C := ([.inr (.inr 12), .inl (0, 0)], [((0, 1), .inl (1, 1))], [(some (.inl (1, 1)), [.inr (.inr 12), .inl (0, 0)], [])], [])
def kx230_a : List fx_N := []
def kx230_s : List fx_D := []
def kx230_x : fx_X := ([], [(37, 1, 1)], [], [], [], [])
set_option maxRecDepth 100000 in
theorem kx230_k : fx_chk TX 2 kx230_c 0 kx230_x t_X2_bitOf kx230_a kx230_s 11 = true := by decide +kernel
set_option maxRecDepth 100000 in
theorem kx230 {l : Launch} {E : (Nat → Prop) → State → Prop} {ad : List Nat} {D : va_G} {gs : List Nat} {cy : Nat → ClassId} (h : fxX E D cy) : fx_Met l yX2_bitOf (.code yX2_bitOf cX2_bitOf 2 (some .int) :: wsL_law) ({ frames := 0, cells := 0, slots := 0, locals := 0 }) E (gs, TX, cy, fun _ => True) ad D classes kx230_c :=
  fx_sound (x := kx230_x) (tb := t_X2_bitOf) (an := kx230_a) (sp := kx230_s) (rk := 0) 11 h.1 (fun _ _ _ _ _ _ => trivial) (fun _ _ _ _ _ _ => trivial) (ht_tys cy) (by decide) rfl ⟨fx_an, (fx_ac fl_X2_37 (fx_an)), fx_an, fx_an, fx_an, fx_an⟩ d_X2_bitOf kx230_k
-- X2_bestTurn 4 11 i i ('c', 1)
def kx231_c : fx_C := ([.inr (.inr 5), .inr (.inr 12), .inl (0, 4095), .inl (0, 1)], [((1, 1), .inl (1, 1))], [(some (.inl (-2147483648, 2147483647)), [.inr (.inr 5), .inr (.inr 12), .inl (0, 4095), .inl (0, 1)], [])], [])
def kx231_a : List fx_N := [(9, [(6, .inl (0, 0)), (0, .inr (.inr 5)), (1, .inr (.inr 12)), (2, .inl (0, 4095)), (3, .inl (0, 1)), (4, .inl (0, 0)), (5, .inl (0, 0))], [((2, 1), .inl (1, 1))], [(0, 1)], [(0, 1), (1, 2), (2, 3), (3, 4)]), (9, [(6, .inl (1, 1)), (0, .inr (.inr 5)), (1, .inr (.inr 12)), (2, .inl (0, 4095)), (3, .inl (0, 1)), (4, .inl (0, 1)), (5, .inl (-2147483648, 2147483647))], [((2, 1), .inl (1, 1))], [(0, 0)], [(0, 1), (1, 2), (2, 3), (3, 4)])]
def kx231_s : List fx_D := []
def kx231_x : fx_X := ([], [(11, 2, 0), (37, 1, 1)], [], [], [], [(22, 43, 1000, kx230_c)])
set_option maxRecDepth 100000 in
theorem kx231_k : fx_chk TX 9 kx231_c 0 kx231_x t_X2_bestTurn kx231_a kx231_s 32 = true := by decide +kernel
set_option maxRecDepth 100000 in
theorem kx231 {l : Launch} {E : (Nat → Prop) → State → Prop} {ad : List Nat} {D : va_G} {gs : List Nat} {cy : Nat → ClassId} (h : fxX E D cy) : fx_Met l yX2_bestTurn (.code yX2_bestTurn cX2_bestTurn 9 (some .int) :: wsL_law) ({ frames := 1, cells := 0, slots := 0, locals := 21 }) E (gs, TX, cy, fun _ => True) ad D classes kx231_c :=
  fx_sound (x := kx231_x) (tb := t_X2_bestTurn) (an := kx231_a) (sp := kx231_s) (rk := 0) 32 h.1 (fun _ _ _ _ _ _ => trivial) (fun _ _ _ _ _ _ => trivial) (ht_tys cy) (by decide) rfl ⟨fx_an, (fx_ac fl_X2_11 (fx_ac fl_X2_37 (fx_an))), fx_an, fx_an, fx_an, (fx_ac (ev_S (kx230 h) ⟨by decide, by decide⟩ iS_X2_bitOf g_X2_43) (fx_an))⟩ d_X2_bestTurn kx231_k
-- X2_bitOf 11 i ('c', 0) ('c', 2)
def kx232_c : fx_C := ([.inr (.inr 12), .inl (0, 0)], [((0, 1), .inl (2, 2))], [(some (.inl (2, 2)), [.inr (.inr 12), .inl (0, 0)], [])], [])
def kx232_a : List fx_N := []
def kx232_s : List fx_D := []
def kx232_x : fx_X := ([], [(37, 1, 1)], [], [], [], [])
set_option maxRecDepth 100000 in
theorem kx232_k : fx_chk TX 2 kx232_c 0 kx232_x t_X2_bitOf kx232_a kx232_s 11 = true := by decide +kernel
set_option maxRecDepth 100000 in
theorem kx232 {l : Launch} {E : (Nat → Prop) → State → Prop} {ad : List Nat} {D : va_G} {gs : List Nat} {cy : Nat → ClassId} (h : fxX E D cy) : fx_Met l yX2_bitOf (.code yX2_bitOf cX2_bitOf 2 (some .int) :: wsL_law) ({ frames := 0, cells := 0, slots := 0, locals := 0 }) E (gs, TX, cy, fun _ => True) ad D classes kx232_c :=
  fx_sound (x := kx232_x) (tb := t_X2_bitOf) (an := kx232_a) (sp := kx232_s) (rk := 0) 11 h.1 (fun _ _ _ _ _ _ => trivial) (fun _ _ _ _ _ _ => trivial) (ht_tys cy) (by decide) rfl ⟨fx_an, (fx_ac fl_X2_37 (fx_an)), fx_an, fx_an, fx_an, fx_an⟩ d_X2_bitOf kx232_k
