-- X7_isKnown 6 i i
def kx373_c : fx_C := ([.inr (.inr 7), .inl (0, 29), .inl (-2147483648, 2147483647)], [], [(some (.inl (1, 1)), [.inr (.inr 7), .inl (0, 29), .inl (-2147483648, 2147483647)], []), (some (.inl (0, 0)), [.inr (.inr 7), .inl (0, 29), .inl (-2147483648, 2147483647)], [])], [])
def kx373_a : List fx_N := []
def kx373_s : List fx_D := []
def kx373_x : fx_X := ([], [(21, 7, 3), (24, 7, 4)], [], [], [], [])
set_option maxRecDepth 100000 in
theorem kx373_k : fx_chk TX 3 kx373_c 3 kx373_x t_X7_isKnown kx373_a kx373_s 23 = true := by decide +kernel
set_option maxRecDepth 100000 in
theorem kx373 {l : Launch} {E : (Nat → Prop) → State → Prop} {ad : List Nat} {D : va_G} {gs : List Nat} {cy : Nat → ClassId} (h : fxX E D cy) : fx_Met l yX7_isKnown (.code yX7_isKnown cX7_isKnown 3 (some .boolean) :: wsL_law) ({ frames := 0, cells := 0, slots := 0, locals := 0 }) E (gs, TX, cy, fun _ => True) ad D classes kx373_c :=
  fx_sound (x := kx373_x) (tb := t_X7_isKnown) (an := kx373_a) (sp := kx373_s) (rk := 3) 23 h.1 (fun _ _ _ _ _ _ => trivial) (fun _ _ _ _ _ _ => trivial) (ht_tys cy) (by decide) rfl ⟨fx_an, (fx_ac fl_X7_21 (fx_ac fl_X7_24 (fx_an))), fx_an, fx_an, fx_an, fx_an⟩ d_X7_isKnown kx373_k
-- X1_hasRoom 13
def kx374_c : fx_C := ([.inr (.inr 14)], [], [(some (.inl (1, 1)), [.inr (.inr 14)], [((0, 1), .inl (0, 4))]), (some (.inl (0, 0)), [.inr (.inr 14)], [((0, 1), .inl (5, 5))])], [])
def kx374_a : List fx_N := []
def kx374_s : List fx_D := []
def kx374_x : fx_X := ([], [(15, 1, 0), (21, 1, 1)], [], [], [], [])
set_option maxRecDepth 100000 in
theorem kx374_k : fx_chk TX 1 kx374_c 3 kx374_x t_X1_hasRoom kx374_a kx374_s 14 = true := by decide +kernel
set_option maxRecDepth 100000 in
theorem kx374 {l : Launch} {E : (Nat → Prop) → State → Prop} {ad : List Nat} {D : va_G} {gs : List Nat} {cy : Nat → ClassId} (h : fxX E D cy) : fx_Met l yX1_hasRoom (.code yX1_hasRoom cX1_hasRoom 1 (some .boolean) :: wsL_law) ({ frames := 0, cells := 0, slots := 0, locals := 0 }) E (gs, TX, cy, fun _ => True) ad D classes kx374_c :=
  fx_sound (x := kx374_x) (tb := t_X1_hasRoom) (an := kx374_a) (sp := kx374_s) (rk := 3) 14 h.1 (fun _ _ _ _ _ _ => trivial) (fun _ _ _ _ _ _ => trivial) (ht_tys cy) (by decide) rfl ⟨fx_an, (fx_ac fl_X1_15 (fx_ac fl_X1_21 (fx_an))), fx_an, fx_an, fx_an, fx_an⟩ d_X1_hasRoom kx374_k
-- X1_add 13 i
def kx375_c : fx_C := ([.inr (.inr 14), .inl (0, 4)], [], [(none, [.inr (.inr 14), .inl (0, 4)], [((0, 1), .inl (1, 5))])], [(1, 1), (1000, 16)])
def kx375_a : List fx_N := []
def kx375_s : List fx_D := []
def kx375_x : fx_X := ([], [(15, 1, 0), (21, 1, 1)], [(21, 1, 1, 0)], [], [], [(1, 25, 1, kx374_c)])
set_option maxRecDepth 100000 in
theorem kx375_k : fx_chk TX 2 kx375_c 9 kx375_x t_X1_add kx375_a kx375_s 18 = true := by decide +kernel
set_option maxRecDepth 100000 in
theorem kx375 {l : Launch} {E : (Nat → Prop) → State → Prop} {ad : List Nat} {D : va_G} {gs : List Nat} {cy : Nat → ClassId} (h : fxX E D cy) : fx_Met l yX1_add (.code yX1_add cX1_add 2 none :: wsL_law) ({ frames := 1, cells := 0, slots := 0, locals := 20 }) E (gs, TX, cy, fun _ => True) ad D classes kx375_c :=
  fx_sound (x := kx375_x) (tb := t_X1_add) (an := kx375_a) (sp := kx375_s) (rk := 9) 18 h.1 (fun _ _ _ _ _ _ => trivial) (fun _ _ _ _ _ _ => trivial) (ht_tys cy) (by decide) rfl ⟨fx_an, (fx_ac fl_X1_15 (fx_ac fl_X1_21 (fx_an))), (fx_ac pl_X1_21 (fx_an)), fx_an, fx_an, (fx_ac (ev_V (kx374 h) (by decide) rfl ⟨by decide, by decide⟩ iV_X1_hasRoom g_X1_25) (fx_an))⟩ d_X1_add kx375_k
-- X7_noteOrder 6
def kx376_c : fx_C := ([.inr (.inr 7)], [], [(none, [.inr (.inr 7)], [])], [(1, 1), (7, 12), (1000, 16), (1000, 43)])
def kx376_a : List fx_N := [(2, [(0, .inr (.inr 7)), (1, .inl (0, 5))], [], [(0, 0), (1, 1), (0, 0)], [(0, 0)])]
def kx376_s : List fx_D := []
def kx376_x : fx_X := ([], [(30, 7, 6), (33, 7, 7), (41, 7, 8), (57, 7, 9), (79, 7, 12)], [(79, 7, 12, 0)], [], [], [(46, 118, 1, kx375_c)])
set_option maxRecDepth 100000 in
theorem kx376_k : fx_chk TX 2 kx376_c 9 kx376_x t_X7_noteOrder kx376_a kx376_s 34 = true := by decide +kernel
set_option maxRecDepth 100000 in
theorem kx376 {l : Launch} {E : (Nat → Prop) → State → Prop} {ad : List Nat} {D : va_G} {gs : List Nat} {cy : Nat → ClassId} (h : fxX E D cy) : fx_Met l yX7_noteOrder (.code yX7_noteOrder cX7_noteOrder 2 none :: wsL_law) ({ frames := 2, cells := 0, slots := 0, locals := 41 }) E (gs, TX, cy, fun _ => True) ad D classes kx376_c :=
  fx_sound (x := kx376_x) (tb := t_X7_noteOrder) (an := kx376_a) (sp := kx376_s) (rk := 9) 34 h.1 (fun _ _ _ _ _ _ => trivial) (fun _ _ _ _ _ _ => trivial) (ht_tys cy) (by decide) rfl ⟨fx_an, (fx_ac fl_X7_30 (fx_ac fl_X7_33 (fx_ac fl_X7_41 (fx_ac fl_X7_57 (fx_ac fl_X7_79 (fx_an)))))), (fx_ac pl_X7_79 (fx_an)), fx_an, fx_an, (fx_ac (ev_V (kx375 h) (by decide) rfl ⟨by decide, by decide⟩ iV_X1_add g_X7_118) (fx_an))⟩ d_X7_noteOrder kx376_k
-- X7_comingFrom 6 i
def kx377_c : fx_C := ([.inr (.inr 7), .inl (0, 4)], [], [(some (.inl (-2147483648, 2147483647)), [.inr (.inr 7), .inl (0, 4)], [((0, 9), .inl (1, 5))]), (some (.inl (0, 0)), [.inr (.inr 7), .inl (0, 4)], [((0, 9), .inl (0, 4))])], [])
def kx377_a : List fx_N := []
def kx377_s : List fx_D := []
def kx377_x : fx_X := ([], [(9, 7, 0), (57, 7, 9)], [], [], [], [])
set_option maxRecDepth 100000 in
theorem kx377_k : fx_chk TX 2 kx377_c 0 kx377_x t_X7_comingFrom kx377_a kx377_s 14 = true := by decide +kernel
set_option maxRecDepth 100000 in
theorem kx377 {l : Launch} {E : (Nat → Prop) → State → Prop} {ad : List Nat} {D : va_G} {gs : List Nat} {cy : Nat → ClassId} (h : fxX E D cy) : fx_Met l yX7_comingFrom (.code yX7_comingFrom cX7_comingFrom 2 (some .int) :: wsL_law) ({ frames := 0, cells := 0, slots := 0, locals := 0 }) E (gs, TX, cy, fun _ => True) ad D classes kx377_c :=
  fx_sound (x := kx377_x) (tb := t_X7_comingFrom) (an := kx377_a) (sp := kx377_s) (rk := 0) 14 h.1 (fun _ _ _ _ _ _ => trivial) (fun _ _ _ _ _ _ => trivial) (ht_tys cy) (by decide) rfl ⟨fx_an, (fx_ac fl_X7_9 (fx_ac fl_X7_57 (fx_an))), fx_an, fx_an, fx_an, fx_an⟩ d_X7_comingFrom kx377_k
-- X7_canSit 6 i i i
def kx378_c : fx_C := ([.inr (.inr 7), .inl (0, 4), .inl (0, 4), .inl (0, 4095)], [], [(some (.inl (0, 0)), [.inr (.inr 7), .inl (0, 4), .inl (0, 4), .inl (0, 4095)], []), (some (.inl (1, 1)), [.inr (.inr 7), .inl (0, 4), .inl (0, 4), .inl (0, 4095)], [])], [])
def kx378_a : List fx_N := []
def kx378_s : List fx_D := []
def kx378_x : fx_X := ([], [(27, 7, 5), (30, 7, 6)], [], [], [], [(36, 115, 7, kx377_c)])
set_option maxRecDepth 100000 in
theorem kx378_k : fx_chk TX 4 kx378_c 3 kx378_x t_X7_canSit kx378_a kx378_s 35 = true := by decide +kernel
set_option maxRecDepth 100000 in
theorem kx378 {l : Launch} {E : (Nat → Prop) → State → Prop} {ad : List Nat} {D : va_G} {gs : List Nat} {cy : Nat → ClassId} (h : fxX E D cy) : fx_Met l yX7_canSit (.code yX7_canSit cX7_canSit 4 (some .boolean) :: wsL_law) ({ frames := 1, cells := 0, slots := 0, locals := 21 }) E (gs, TX, cy, fun _ => True) ad D classes kx378_c :=
  fx_sound (x := kx378_x) (tb := t_X7_canSit) (an := kx378_a) (sp := kx378_s) (rk := 3) 35 h.1 (fun _ _ _ _ _ _ => trivial) (fun _ _ _ _ _ _ => trivial) (ht_tys cy) (by decide) rfl ⟨fx_an, (fx_ac fl_X7_27 (fx_ac fl_X7_30 (fx_an))), fx_an, fx_an, fx_an, (fx_ac (ev_V (kx377 h) (by decide) rfl ⟨by decide, by decide⟩ iV_X7_comingFrom g_X7_115) (fx_an))⟩ d_X7_canSit kx378_k
-- X7_seatFrom 6 i i ('c', 5)
def kx379_c : fx_C := ([.inr (.inr 7), .inl (5, 5), .inl (0, 4095)], [], [(none, [.inr (.inr 7), .inl (5, 5), .inl (0, 4095)], [])], [(1, 1), (7, 12), (1000, 16), (1000, 43)])
def kx379_a : List fx_N := []
def kx379_s : List fx_D := []
def kx379_x : fx_X := ([], [(57, 7, 9)], [], [], [], [(18, 108, 7, kx376_c)])
set_option maxRecDepth 100000 in
theorem kx379_k : fx_chk TX 4 kx379_c 9 kx379_x t_X7_seatFrom kx379_a kx379_s 9 = true := by decide +kernel
set_option maxRecDepth 100000 in
theorem kx379 {l : Launch} {E : (Nat → Prop) → State → Prop} {ad : List Nat} {D : va_G} {gs : List Nat} {cy : Nat → ClassId} (h : fxX E D cy) : fx_Met l yX7_seatFrom (.code yX7_seatFrom cX7_seatFrom 4 none :: wsL_law) ({ frames := 3, cells := 0, slots := 0, locals := 62 }) E (gs, TX, cy, fun _ => True) ad D classes kx379_c :=
  fx_sound (x := kx379_x) (tb := t_X7_seatFrom) (an := kx379_a) (sp := kx379_s) (rk := 9) 9 h.1 (fun _ _ _ _ _ _ => trivial) (fun _ _ _ _ _ _ => trivial) (ht_tys cy) (by decide) rfl ⟨fx_an, (fx_ac fl_X7_57 (fx_an)), fx_an, fx_an, fx_an, (fx_ac (ev_V (kx376 h) (by decide) rfl ⟨by decide, by decide⟩ iV_X7_noteOrder g_X7_108) (fx_an))⟩ d_X7_seatFrom kx379_k
-- X7_seatFrom 6 i i ('c', 4)
def kx380_c : fx_C := ([.inr (.inr 7), .inl (4, 4), .inl (0, 4095)], [], [(none, [.inr (.inr 7), .inl (4, 4), .inl (0, 4095)], [])], [(1, 1), (7, 12), (1000, 16), (1000, 42), (1000, 43)])
def kx380_a : List fx_N := [(24, [(0, .inr (.inr 7)), (1, .inl (4, 4)), (2, .inl (0, 4095)), (3, .inl (0, 5))], [((0, 9), .inl (5, 5))], [(0, 0), (1, 3), (0, 0)], [(0, 0), (1, 1), (2, 2)])]
def kx380_s : List fx_D := []
def kx380_x : fx_X := ([], [(30, 7, 6), (57, 7, 9)], [], [], [], [(18, 108, 7, kx376_c), (36, 111, 7, kx378_c), (58, 95, 7, kx379_c)])
set_option maxRecDepth 100000 in
theorem kx380_k : fx_chk TX 4 kx380_c 9 kx380_x t_X7_seatFrom kx380_a kx380_s 30 = true := by decide +kernel
set_option maxRecDepth 100000 in
theorem kx380 {l : Launch} {E : (Nat → Prop) → State → Prop} {ad : List Nat} {D : va_G} {gs : List Nat} {cy : Nat → ClassId} (h : fxX E D cy) : fx_Met l yX7_seatFrom (.code yX7_seatFrom cX7_seatFrom 4 none :: wsL_law) ({ frames := 4, cells := 0, slots := 0, locals := 85 }) E (gs, TX, cy, fun _ => True) ad D classes kx380_c :=
  fx_sound (x := kx380_x) (tb := t_X7_seatFrom) (an := kx380_a) (sp := kx380_s) (rk := 9) 30 h.1 (fun _ _ _ _ _ _ => trivial) (fun _ _ _ _ _ _ => trivial) (ht_tys cy) (by decide) rfl ⟨fx_an, (fx_ac fl_X7_30 (fx_ac fl_X7_57 (fx_an))), fx_an, fx_an, fx_an, (fx_ac (ev_V (kx376 h) (by decide) rfl ⟨by decide, by decide⟩ iV_X7_noteOrder g_X7_108) (fx_ac (ev_V (kx378 h) (by decide) rfl ⟨by decide, by decide⟩ iV_X7_canSit g_X7_111) (fx_ac (ev_V (kx379 h) (by decide) rfl ⟨by decide, by decide⟩ iV_X7_seatFrom g_X7_95) (fx_an))))⟩ d_X7_seatFrom kx380_k
-- X7_seatFrom 6 i i ('c', 3)
def kx381_c : fx_C := ([.inr (.inr 7), .inl (3, 3), .inl (0, 4095)], [], [(none, [.inr (.inr 7), .inl (3, 3), .inl (0, 4095)], [])], [(1, 1), (7, 12), (1000, 16), (1000, 42), (1000, 43)])
def kx381_a : List fx_N := [(24, [(0, .inr (.inr 7)), (1, .inl (3, 3)), (2, .inl (0, 4095)), (3, .inl (0, 5))], [((0, 9), .inl (4, 5))], [(0, 0), (1, 3), (0, 0)], [(0, 0), (1, 1), (2, 2)])]
def kx381_s : List fx_D := []
def kx381_x : fx_X := ([], [(30, 7, 6), (57, 7, 9)], [], [], [], [(18, 108, 7, kx376_c), (36, 111, 7, kx378_c), (58, 95, 7, kx380_c)])
set_option maxRecDepth 100000 in
theorem kx381_k : fx_chk TX 4 kx381_c 9 kx381_x t_X7_seatFrom kx381_a kx381_s 30 = true := by decide +kernel
set_option maxRecDepth 100000 in
theorem kx381 {l : Launch} {E : (Nat → Prop) → State → Prop} {ad : List Nat} {D : va_G} {gs : List Nat} {cy : Nat → ClassId} (h : fxX E D cy) : fx_Met l yX7_seatFrom (.code yX7_seatFrom cX7_seatFrom 4 none :: wsL_law) ({ frames := 5, cells := 0, slots := 0, locals := 108 }) E (gs, TX, cy, fun _ => True) ad D classes kx381_c :=
  fx_sound (x := kx381_x) (tb := t_X7_seatFrom) (an := kx381_a) (sp := kx381_s) (rk := 9) 30 h.1 (fun _ _ _ _ _ _ => trivial) (fun _ _ _ _ _ _ => trivial) (ht_tys cy) (by decide) rfl ⟨fx_an, (fx_ac fl_X7_30 (fx_ac fl_X7_57 (fx_an))), fx_an, fx_an, fx_an, (fx_ac (ev_V (kx376 h) (by decide) rfl ⟨by decide, by decide⟩ iV_X7_noteOrder g_X7_108) (fx_ac (ev_V (kx378 h) (by decide) rfl ⟨by decide, by decide⟩ iV_X7_canSit g_X7_111) (fx_ac (ev_V (kx380 h) (by decide) rfl ⟨by decide, by decide⟩ iV_X7_seatFrom g_X7_95) (fx_an))))⟩ d_X7_seatFrom kx381_k
-- X7_seatFrom 6 i i ('c', 2)
def kx382_c : fx_C := ([.inr (.inr 7), .inl (2, 2), .inl (0, 4095)], [], [(none, [.inr (.inr 7), .inl (2, 2), .inl (0, 4095)], [])], [(1, 1), (7, 12), (1000, 16), (1000, 42), (1000, 43)])
def kx382_a : List fx_N := [(24, [(0, .inr (.inr 7)), (1, .inl (2, 2)), (2, .inl (0, 4095)), (3, .inl (0, 5))], [((0, 9), .inl (3, 5))], [(0, 0), (1, 3), (0, 0)], [(0, 0), (1, 1), (2, 2)])]
def kx382_s : List fx_D := []
def kx382_x : fx_X := ([], [(30, 7, 6), (57, 7, 9)], [], [], [], [(18, 108, 7, kx376_c), (36, 111, 7, kx378_c), (58, 95, 7, kx381_c)])
set_option maxRecDepth 100000 in
theorem kx382_k : fx_chk TX 4 kx382_c 9 kx382_x t_X7_seatFrom kx382_a kx382_s 30 = true := by decide +kernel
set_option maxRecDepth 100000 in
theorem kx382 {l : Launch} {E : (Nat → Prop) → State → Prop} {ad : List Nat} {D : va_G} {gs : List Nat} {cy : Nat → ClassId} (h : fxX E D cy) : fx_Met l yX7_seatFrom (.code yX7_seatFrom cX7_seatFrom 4 none :: wsL_law) ({ frames := 6, cells := 0, slots := 0, locals := 131 }) E (gs, TX, cy, fun _ => True) ad D classes kx382_c :=
  fx_sound (x := kx382_x) (tb := t_X7_seatFrom) (an := kx382_a) (sp := kx382_s) (rk := 9) 30 h.1 (fun _ _ _ _ _ _ => trivial) (fun _ _ _ _ _ _ => trivial) (ht_tys cy) (by decide) rfl ⟨fx_an, (fx_ac fl_X7_30 (fx_ac fl_X7_57 (fx_an))), fx_an, fx_an, fx_an, (fx_ac (ev_V (kx376 h) (by decide) rfl ⟨by decide, by decide⟩ iV_X7_noteOrder g_X7_108) (fx_ac (ev_V (kx378 h) (by decide) rfl ⟨by decide, by decide⟩ iV_X7_canSit g_X7_111) (fx_ac (ev_V (kx381 h) (by decide) rfl ⟨by decide, by decide⟩ iV_X7_seatFrom g_X7_95) (fx_an))))⟩ d_X7_seatFrom kx382_k
-- X7_seatFrom 6 i i ('c', 1)
def kx383_c : fx_C := ([.inr (.inr 7), .inl (1, 1), .inl (0, 4095)], [], [(none, [.inr (.inr 7), .inl (1, 1), .inl (0, 4095)], [])], [(1, 1), (7, 12), (1000, 16), (1000, 42), (1000, 43)])
def kx383_a : List fx_N := [(24, [(0, .inr (.inr 7)), (1, .inl (1, 1)), (2, .inl (0, 4095)), (3, .inl (0, 5))], [((0, 9), .inl (2, 5))], [(0, 0), (1, 3), (0, 0)], [(0, 0), (1, 1), (2, 2)])]
def kx383_s : List fx_D := []
def kx383_x : fx_X := ([], [(30, 7, 6), (57, 7, 9)], [], [], [], [(18, 108, 7, kx376_c), (36, 111, 7, kx378_c), (58, 95, 7, kx382_c)])
set_option maxRecDepth 100000 in
theorem kx383_k : fx_chk TX 4 kx383_c 9 kx383_x t_X7_seatFrom kx383_a kx383_s 30 = true := by decide +kernel
set_option maxRecDepth 100000 in
theorem kx383 {l : Launch} {E : (Nat → Prop) → State → Prop} {ad : List Nat} {D : va_G} {gs : List Nat} {cy : Nat → ClassId} (h : fxX E D cy) : fx_Met l yX7_seatFrom (.code yX7_seatFrom cX7_seatFrom 4 none :: wsL_law) ({ frames := 7, cells := 0, slots := 0, locals := 154 }) E (gs, TX, cy, fun _ => True) ad D classes kx383_c :=
  fx_sound (x := kx383_x) (tb := t_X7_seatFrom) (an := kx383_a) (sp := kx383_s) (rk := 9) 30 h.1 (fun _ _ _ _ _ _ => trivial) (fun _ _ _ _ _ _ => trivial) (ht_tys cy) (by decide) rfl ⟨fx_an, (fx_ac fl_X7_30 (fx_ac fl_X7_57 (fx_an))), fx_an, fx_an, fx_an, (fx_ac (ev_V (kx376 h) (by decide) rfl ⟨by decide, by decide⟩ iV_X7_noteOrder g_X7_108) (fx_ac (ev_V (kx378 h) (by decide) rfl ⟨by decide, by decide⟩ iV_X7_canSit g_X7_111) (fx_ac (ev_V (kx382 h) (by decide) rfl ⟨by decide, by decide⟩ iV_X7_seatFrom g_X7_95) (fx_an))))⟩ d_X7_seatFrom kx383_k
-- X7_seatFrom 6 i i ('c', 0)
def kx384_c : fx_C := ([.inr (.inr 7), .inl (0, 0), .inl (0, 0)], [], [(none, [.inr (.inr 7), .inl (0, 0), .inl (0, 0)], [])], [(1, 1), (7, 12), (1000, 16), (1000, 42), (1000, 43)])
def kx384_a : List fx_N := [(24, [(0, .inr (.inr 7)), (1, .inl (0, 0)), (2, .inl (0, 0)), (3, .inl (0, 5))], [((0, 9), .inl (1, 5))], [(0, 0), (1, 3), (0, 0)], [(0, 0), (1, 1), (2, 2)])]
def kx384_s : List fx_D := []
def kx384_x : fx_X := ([], [(30, 7, 6), (57, 7, 9)], [], [], [], [(18, 108, 7, kx376_c), (36, 111, 7, kx378_c), (58, 95, 7, kx383_c)])
set_option maxRecDepth 100000 in
theorem kx384_k : fx_chk TX 4 kx384_c 9 kx384_x t_X7_seatFrom kx384_a kx384_s 30 = true := by decide +kernel
set_option maxRecDepth 100000 in
theorem kx384 {l : Launch} {E : (Nat → Prop) → State → Prop} {ad : List Nat} {D : va_G} {gs : List Nat} {cy : Nat → ClassId} (h : fxX E D cy) : fx_Met l yX7_seatFrom (.code yX7_seatFrom cX7_seatFrom 4 none :: wsL_law) ({ frames := 8, cells := 0, slots := 0, locals := 177 }) E (gs, TX, cy, fun _ => True) ad D classes kx384_c :=
  fx_sound (x := kx384_x) (tb := t_X7_seatFrom) (an := kx384_a) (sp := kx384_s) (rk := 9) 30 h.1 (fun _ _ _ _ _ _ => trivial) (fun _ _ _ _ _ _ => trivial) (ht_tys cy) (by decide) rfl ⟨fx_an, (fx_ac fl_X7_30 (fx_ac fl_X7_57 (fx_an))), fx_an, fx_an, fx_an, (fx_ac (ev_V (kx376 h) (by decide) rfl ⟨by decide, by decide⟩ iV_X7_noteOrder g_X7_108) (fx_ac (ev_V (kx378 h) (by decide) rfl ⟨by decide, by decide⟩ iV_X7_canSit g_X7_111) (fx_ac (ev_V (kx383 h) (by decide) rfl ⟨by decide, by decide⟩ iV_X7_seatFrom g_X7_95) (fx_an))))⟩ d_X7_seatFrom kx384_k
-- X7_countKnown 6 i
def kx385_c : fx_C := ([.inr (.inr 7), .inl (-2147483648, 2147483647)], [], [(some (.inl (-2147483648, 2147483647)), [.inr (.inr 7), .inl (-2147483648, 2147483647)], [])], [(1, 1), (7, 12), (1000, 16), (1000, 41), (1000, 42), (1000, 43)])
def kx385_a : List fx_N := [(30, [(0, .inr (.inr 7)), (1, .inl (-2147483648, 2147483647)), (2, .inl (0, 30))], [((0, 12), .inl (0, 0)), ((0, 8), .inr (.inr 14)), ((4, 1), .inl (0, 0))], [(0, 0), (1, 2), (0, 0)], [(0, 0), (1, 1)])]
def kx385_s : List fx_D := []
def kx385_x : fx_X := ([], [(15, 7, 1), (18, 7, 2), (27, 7, 5), (33, 7, 7), (41, 7, 8), (58, 7, 10), (79, 7, 12)], [(79, 7, 12, 0)], [], [], [(9, 82, 1, kx370_c), (17, 85, 1000, kx371_c), (25, 85, 1000, kx372_c), (54, 91, 7, kx373_c), (99, 95, 7, kx384_c)])
set_option maxRecDepth 100000 in
theorem kx385_k : fx_chk TX 4 kx385_c 0 kx385_x t_X7_countKnown kx385_a kx385_s 42 = true := by decide +kernel
set_option maxRecDepth 100000 in
theorem kx385 {l : Launch} {E : (Nat → Prop) → State → Prop} {ad : List Nat} {D : va_G} {gs : List Nat} {cy : Nat → ClassId} (h : fxX E D cy) : fx_Met l yX7_countKnown (.code yX7_countKnown cX7_countKnown 4 (some .int) :: wsL_law) ({ frames := 9, cells := 0, slots := 0, locals := 200 }) E (gs, TX, cy, fun _ => True) ad D classes kx385_c :=
  fx_sound (x := kx385_x) (tb := t_X7_countKnown) (an := kx385_a) (sp := kx385_s) (rk := 0) 42 h.1 (fun _ _ _ _ _ _ => trivial) (fun _ _ _ _ _ _ => trivial) (ht_tys cy) (by decide) rfl ⟨fx_an, (fx_ac fl_X7_15 (fx_ac fl_X7_18 (fx_ac fl_X7_27 (fx_ac fl_X7_33 (fx_ac fl_X7_41 (fx_ac fl_X7_58 (fx_ac fl_X7_79 (fx_an)))))))), (fx_ac pl_X7_79 (fx_an)), fx_an, fx_an, (fx_ac (ev_V (kx370 h) (by decide) rfl ⟨by decide, by decide⟩ iV_X1_clear g_X7_82) (fx_ac (ev_S (kx371 h) ⟨by decide, by decide⟩ iS_J7_fill_53178 g_X7_85) (fx_ac (ev_S (kx372 h) ⟨by decide, by decide⟩ iS_J7_fill_53178 g_X7_85) (fx_ac (ev_V (kx373 h) (by decide) rfl ⟨by decide, by decide⟩ iV_X7_isKnown g_X7_91) (fx_ac (ev_V (kx384 h) (by decide) rfl ⟨by decide, by decide⟩ iV_X7_seatFrom g_X7_95) (fx_an))))))⟩ d_X7_countKnown kx385_k
-- X7_countUnhinted 6
def kx386_c : fx_C := ([.inr (.inr 7)], [], [(some (.inl (-2147483648, 2147483647)), [.inr (.inr 7)], [])], [(1, 1), (7, 12), (1000, 16), (1000, 41), (1000, 42), (1000, 43)])
def kx386_a : List fx_N := []
def kx386_s : List fx_D := []
def kx386_x : fx_X := ([], [], [], [], [], [(2, 75, 7, kx385_c)])
set_option maxRecDepth 100000 in
theorem kx386_k : fx_chk TX 1 kx386_c 0 kx386_x t_X7_countUnhinted kx386_a kx386_s 6 = true := by decide +kernel
set_option maxRecDepth 100000 in
theorem kx386 {l : Launch} {E : (Nat → Prop) → State → Prop} {ad : List Nat} {D : va_G} {gs : List Nat} {cy : Nat → ClassId} (h : fxX E D cy) : fx_Met l yX7_countUnhinted (.code yX7_countUnhinted cX7_countUnhinted 1 (some .int) :: wsL_law) ({ frames := 10, cells := 0, slots := 0, locals := 223 }) E (gs, TX, cy, fun _ => True) ad D classes kx386_c :=
  fx_sound (x := kx386_x) (tb := t_X7_countUnhinted) (an := kx386_a) (sp := kx386_s) (rk := 0) 6 h.1 (fun _ _ _ _ _ _ => trivial) (fun _ _ _ _ _ _ => trivial) (ht_tys cy) (by decide) rfl ⟨fx_an, fx_an, fx_an, fx_an, fx_an, (fx_ac (ev_V (kx385 h) (by decide) rfl ⟨by decide, by decide⟩ iV_X7_countKnown g_X7_75) (fx_an))⟩ d_X7_countUnhinted kx386_k
-- X1_at 13 i
def kx387_c : fx_C := ([.inr (.inr 14), .inl (0, 4)], [], [(some (.inl (-2147483648, 2147483647)), [.inr (.inr 14), .inl (0, 4)], [((0, 1), .inl (1, 5))]), (some (.inl (-1, -1)), [.inr (.inr 14), .inl (0, 4)], [((0, 1), .inl (0, 4))])], [])
def kx387_a : List fx_N := []
def kx387_s : List fx_D := []
def kx387_x : fx_X := ([], [(15, 1, 0), (21, 1, 1)], [], [], [], [])
set_option maxRecDepth 100000 in
theorem kx387_k : fx_chk TX 2 kx387_c 0 kx387_x t_X1_at kx387_a kx387_s 19 = true := by decide +kernel
set_option maxRecDepth 100000 in
theorem kx387 {l : Launch} {E : (Nat → Prop) → State → Prop} {ad : List Nat} {D : va_G} {gs : List Nat} {cy : Nat → ClassId} (h : fxX E D cy) : fx_Met l yX1_at (.code yX1_at cX1_at 2 (some .int) :: wsL_law) ({ frames := 0, cells := 0, slots := 0, locals := 0 }) E (gs, TX, cy, fun _ => True) ad D classes kx387_c :=
  fx_sound (x := kx387_x) (tb := t_X1_at) (an := kx387_a) (sp := kx387_s) (rk := 0) 19 h.1 (fun _ _ _ _ _ _ => trivial) (fun _ _ _ _ _ _ => trivial) (ht_tys cy) (by decide) rfl ⟨fx_an, (fx_ac fl_X1_15 (fx_ac fl_X1_21 (fx_an))), fx_an, fx_an, fx_an, fx_an⟩ d_X1_at kx387_k
-- X1_copy 12 13
def kx388_c : fx_C := ([.inr (.inr 13), .inr (.inr 14)], [], [(none, [.inr (.inr 13), .inr (.inr 14)], [])], [(1, 1), (1000, 15)])
def kx388_a : List fx_N := [(6, [(0, .inr (.inr 13)), (1, .inr (.inr 14)), (2, .inl (0, 5))], [], [(0, 0), (1, 2), (0, 0)], [(0, 0), (1, 1)])]
def kx388_s : List fx_D := []
def kx388_x : fx_X := ([], [(21, 1, 1)], [], [], [], [(1, 33, 1, kx111_c), (17, 36, 1, kx387_c), (20, 40, 1, kx189_c)])
set_option maxRecDepth 100000 in
theorem kx388_k : fx_chk TX 3 kx388_c 9 kx388_x t_X1_copy kx388_a kx388_s 14 = true := by decide +kernel
set_option maxRecDepth 100000 in
theorem kx388 {l : Launch} {E : (Nat → Prop) → State → Prop} {ad : List Nat} {D : va_G} {gs : List Nat} {cy : Nat → ClassId} (h : fxX E D cy) : fx_Met l yX1_copy (.code yX1_copy cX1_copy 3 none :: wsL_law) ({ frames := 2, cells := 0, slots := 0, locals := 41 }) E (gs, TX, cy, fun _ => True) ad D classes kx388_c :=
  fx_sound (x := kx388_x) (tb := t_X1_copy) (an := kx388_a) (sp := kx388_s) (rk := 9) 14 h.1 (fun _ _ _ _ _ _ => trivial) (fun _ _ _ _ _ _ => trivial) (ht_tys cy) (by decide) rfl ⟨fx_an, (fx_ac fl_X1_21 (fx_an)), fx_an, fx_an, fx_an, (fx_ac (ev_V (kx111 h) (by decide) rfl ⟨by decide, by decide⟩ iV_X1_clear g_X1_33) (fx_ac (ev_V (kx387 h) (by decide) rfl ⟨by decide, by decide⟩ iV_X1_at g_X1_36) (fx_ac (ev_V (kx189 h) (by decide) rfl ⟨by decide, by decide⟩ iV_X1_add g_X1_40) (fx_an))))⟩ d_X1_copy kx388_k
-- X11_sittings 0
def kx389_c : fx_C := ([.inr (.inr 1)], [], [(some (.inl (-2147483648, 2147483647)), [.inr (.inr 1)], [])], [(1, 1), (7, 12), (1000, 15), (1000, 16), (1000, 41), (1000, 42), (1000, 43)])
def kx389_a : List fx_N := []
def kx389_s : List fx_D := []
def kx389_x : fx_X := ([], [(47, 11, 5), (56, 11, 6), (263, 7, 8)], [], [], [], [(4, 95, 1, kx111_c), (11, 260, 7, kx386_c), (30, 266, 1, kx388_c)])
set_option maxRecDepth 100000 in
theorem kx389_k : fx_chk TX 2 kx389_c 0 kx389_x t_X11_sittings kx389_a kx389_s 19 = true := by decide +kernel
set_option maxRecDepth 100000 in
theorem kx389 {l : Launch} {E : (Nat → Prop) → State → Prop} {ad : List Nat} {D : va_G} {gs : List Nat} {cy : Nat → ClassId} (h : fxX E D cy) : fx_Met l yX11_sittings (.code yX11_sittings cX11_sittings 2 (some .int) :: wsL_law) ({ frames := 11, cells := 0, slots := 0, locals := 243 }) E (gs, TX, cy, fun _ => True) ad D classes kx389_c :=
  fx_sound (x := kx389_x) (tb := t_X11_sittings) (an := kx389_a) (sp := kx389_s) (rk := 0) 19 h.1 (fun _ _ _ _ _ _ => trivial) (fun _ _ _ _ _ _ => trivial) (ht_tys cy) (by decide) rfl ⟨fx_an, (fx_ac fl_X11_47 (fx_ac fl_X11_56 (fx_ac fl_X11_263 (fx_an)))), fx_an, fx_an, fx_an, (fx_ac (ev_V (kx111 h) (by decide) rfl ⟨by decide, by decide⟩ iV_X1_clear g_X11_95) (fx_ac (ev_V (kx386 h) (by decide) rfl ⟨by decide, by decide⟩ iV_X7_countUnhinted g_X11_260) (fx_ac (ev_V (kx388 h) (by decide) rfl ⟨by decide, by decide⟩ iV_X1_copy g_X11_266) (fx_an))))⟩ d_X11_sittings kx389_k
-- X11_comes 0 i
def kx390_c : fx_C := ([.inr (.inr 1), .inl (-2147483648, 2147483647)], [], [(some (.inl (0, 0)), [.inr (.inr 1), .inl (0, 4)], [((0, 5), .inr (.inr 7)), ((2, 9), .inl (0, 4)), ((0, 8), .inr (.inr 9)), ((4, 9), .inl (1, 5))]), (some (.inl (-2147483648, 2147483647)), [.inr (.inr 1), .inl (0, 4)], [((0, 5), .inr (.inr 7)), ((2, 9), .inl (1, 5)), ((0, 8), .inr (.inr 9)), ((4, 9), .inl (1, 5))]), (some (.inl (-1, -1)), [.inr (.inr 1), .inl (-2147483648, 2147483647)], [])], [])
def kx390_a : List fx_N := []
def kx390_s : List fx_D := []
def kx390_x : fx_X := ([], [(47, 11, 5)], [], [], [], [(2, 127, 11, kx124_c), (17, 270, 7, kx377_c)])
set_option maxRecDepth 100000 in
theorem kx390_k : fx_chk TX 2 kx390_c 0 kx390_x t_X11_comes kx390_a kx390_s 11 = true := by decide +kernel
set_option maxRecDepth 100000 in
theorem kx390 {l : Launch} {E : (Nat → Prop) → State → Prop} {ad : List Nat} {D : va_G} {gs : List Nat} {cy : Nat → ClassId} (h : fxX E D cy) : fx_Met l yX11_comes (.code yX11_comes cX11_comes 2 (some .int) :: wsL_law) ({ frames := 2, cells := 0, slots := 0, locals := 42 }) E (gs, TX, cy, fun _ => True) ad D classes kx390_c :=
  fx_sound (x := kx390_x) (tb := t_X11_comes) (an := kx390_a) (sp := kx390_s) (rk := 0) 11 h.1 (fun _ _ _ _ _ _ => trivial) (fun _ _ _ _ _ _ => trivial) (ht_tys cy) (by decide) rfl ⟨fx_an, (fx_ac fl_X11_47 (fx_an)), fx_an, fx_an, fx_an, (fx_ac (ev_V (kx124 h) (by decide) rfl ⟨by decide, by decide⟩ iV_X11_slipOf g_X11_127) (fx_ac (ev_V (kx377 h) (by decide) rfl ⟨by decide, by decide⟩ iV_X7_comingFrom g_X11_270) (fx_an)))⟩ d_X11_comes kx390_k
-- X1_at 12 i
def kx391_c : fx_C := ([.inr (.inr 13), .inl (-2147483648, 2147483647)], [], [(some (.inl (-2147483648, 2147483647)), [.inr (.inr 13), .inl (0, 23)], [((0, 1), .inl (1, 24))]), (some (.inl (-1, -1)), [.inr (.inr 13), .inl (-2147483648, 2147483647)], [])], [])
def kx391_a : List fx_N := []
def kx391_s : List fx_D := []
def kx391_x : fx_X := ([], [(15, 1, 0), (21, 1, 1)], [], [], [], [])
set_option maxRecDepth 100000 in
theorem kx391_k : fx_chk TX 2 kx391_c 0 kx391_x t_X1_at kx391_a kx391_s 19 = true := by decide +kernel
set_option maxRecDepth 100000 in
theorem kx391 {l : Launch} {E : (Nat → Prop) → State → Prop} {ad : List Nat} {D : va_G} {gs : List Nat} {cy : Nat → ClassId} (h : fxX E D cy) : fx_Met l yX1_at (.code yX1_at cX1_at 2 (some .int) :: wsL_law) ({ frames := 0, cells := 0, slots := 0, locals := 0 }) E (gs, TX, cy, fun _ => True) ad D classes kx391_c :=
  fx_sound (x := kx391_x) (tb := t_X1_at) (an := kx391_a) (sp := kx391_s) (rk := 0) 19 h.1 (fun _ _ _ _ _ _ => trivial) (fun _ _ _ _ _ _ => trivial) (ht_tys cy) (by decide) rfl ⟨fx_an, (fx_ac fl_X1_15 (fx_ac fl_X1_21 (fx_an))), fx_an, fx_an, fx_an, fx_an⟩ d_X1_at kx391_k
-- X11_lies 0 i
def kx392_c : fx_C := ([.inr (.inr 1), .inl (-2147483648, 2147483647)], [], [(some (.inl (-1, -1)), [.inr (.inr 1), .inl (-2147483648, 2147483647)], []), (some (.inl (-2147483648, 2147483647)), [.inr (.inr 1), .inl (0, 23)], [((0, 6), .inr (.inr 13)), ((2, 1), .inl (1, 24))])], [])
def kx392_a : List fx_N := []
def kx392_s : List fx_D := []
def kx392_x : fx_X := ([], [(56, 11, 6)], [], [], [], [(5, 123, 1, kx391_c)])
set_option maxRecDepth 100000 in
theorem kx392_k : fx_chk TX 2 kx392_c 0 kx392_x t_X11_lies kx392_a kx392_s 7 = true := by decide +kernel
set_option maxRecDepth 100000 in
theorem kx392 {l : Launch} {E : (Nat → Prop) → State → Prop} {ad : List Nat} {D : va_G} {gs : List Nat} {cy : Nat → ClassId} (h : fxX E D cy) : fx_Met l yX11_lies (.code yX11_lies cX11_lies 2 (some .int) :: wsL_law) ({ frames := 1, cells := 0, slots := 0, locals := 21 }) E (gs, TX, cy, fun _ => True) ad D classes kx392_c :=
  fx_sound (x := kx392_x) (tb := t_X11_lies) (an := kx392_a) (sp := kx392_s) (rk := 0) 7 h.1 (fun _ _ _ _ _ _ => trivial) (fun _ _ _ _ _ _ => trivial) (ht_tys cy) (by decide) rfl ⟨fx_an, (fx_ac fl_X11_56 (fx_an)), fx_an, fx_an, fx_an, (fx_ac (ev_V (kx391 h) (by decide) rfl ⟨by decide, by decide⟩ iV_X1_at g_X11_123) (fx_an))⟩ d_X11_lies kx392_k
-- X7_tell 6 i i
def kx393_c : fx_C := ([.inr (.inr 7), .inl (0, 4), .inl (0, 4)], [], [(some (.inl (-1, -1)), [.inr (.inr 7), .inl (0, 4), .inl (0, 4)], [((0, 10), .inl (30, 30))]), (some (.inl (0, 29)), [.inr (.inr 7), .inl (0, 4), .inl (0, 4)], [((0, 10), .inl (1, 30))])], [(7, 10), (1000, 37), (1000, 38), (1000, 39), (1000, 40)])
def kx393_a : List fx_N := []
def kx393_s : List fx_D := []
def kx393_x : fx_X := ([], [(15, 7, 1), (18, 7, 2), (21, 7, 3), (24, 7, 4), (58, 7, 10), (71, 7, 11)], [(58, 7, 10, 0)], [], [], [])
set_option maxRecDepth 100000 in
theorem kx393_k : fx_chk TX 3 kx393_c 0 kx393_x t_X7_tell kx393_a kx393_s 42 = true := by decide +kernel
set_option maxRecDepth 100000 in
theorem kx393 {l : Launch} {E : (Nat → Prop) → State → Prop} {ad : List Nat} {D : va_G} {gs : List Nat} {cy : Nat → ClassId} (h : fxX E D cy) : fx_Met l yX7_tell (.code yX7_tell cX7_tell 3 (some .int) :: wsL_law) ({ frames := 0, cells := 0, slots := 0, locals := 0 }) E (gs, TX, cy, fun _ => True) ad D classes kx393_c :=
  fx_sound (x := kx393_x) (tb := t_X7_tell) (an := kx393_a) (sp := kx393_s) (rk := 0) 42 h.1 (fun _ _ _ _ _ _ => trivial) (fun _ _ _ _ _ _ => trivial) (ht_tys cy) (by decide) rfl ⟨fx_an, (fx_ac fl_X7_15 (fx_ac fl_X7_18 (fx_ac fl_X7_21 (fx_ac fl_X7_24 (fx_ac fl_X7_58 (fx_ac fl_X7_71 (fx_an))))))), (fx_ac pl_X7_58 (fx_an)), fx_an, fx_an, fx_an⟩ d_X7_tell kx393_k
-- X11_hint 0 i i i
def kx394_c : fx_C := ([.inr (.inr 1), .inl (-2147483648, 2147483647), .inl (-2147483648, 2147483647), .inl (0, 1)], [], [(some (.inl (-1, -1)), [.inr (.inr 1), .inl (-2147483648, 2147483647), .inl (-2147483648, 2147483647), .inl (0, 1)], []), (some (.inl (0, 29)), [.inr (.inr 1), .inl (0, 4), .inl (0, 4), .inl (0, 1)], [((0, 5), .inr (.inr 7)), ((4, 10), .inl (1, 30)), ((0, 8), .inr (.inr 9)), ((6, 9), .inl (1, 5))])], [(7, 10), (1000, 37), (1000, 38), (1000, 39), (1000, 40)])
def kx394_a : List fx_N := []
def kx394_s : List fx_D := []
def kx394_x : fx_X := ([], [(47, 11, 5)], [], [], [], [(2, 127, 11, kx124_c), (10, 127, 11, kx124_c), (33, 273, 7, kx393_c), (45, 273, 7, kx393_c)])
set_option maxRecDepth 100000 in
theorem kx394_k : fx_chk TX 4 kx394_c 0 kx394_x t_X11_hint kx394_a kx394_s 22 = true := by decide +kernel
set_option maxRecDepth 100000 in
theorem kx394 {l : Launch} {E : (Nat → Prop) → State → Prop} {ad : List Nat} {D : va_G} {gs : List Nat} {cy : Nat → ClassId} (h : fxX E D cy) : fx_Met l yX11_hint (.code yX11_hint cX11_hint 4 (some .int) :: wsL_law) ({ frames := 2, cells := 0, slots := 0, locals := 42 }) E (gs, TX, cy, fun _ => True) ad D classes kx394_c :=
  fx_sound (x := kx394_x) (tb := t_X11_hint) (an := kx394_a) (sp := kx394_s) (rk := 0) 22 h.1 (fun _ _ _ _ _ _ => trivial) (fun _ _ _ _ _ _ => trivial) (ht_tys cy) (by decide) rfl ⟨fx_an, (fx_ac fl_X11_47 (fx_an)), fx_an, fx_an, fx_an, (fx_ac (ev_V (kx124 h) (by decide) rfl ⟨by decide, by decide⟩ iV_X11_slipOf g_X11_127) (fx_ac (ev_V (kx124 h) (by decide) rfl ⟨by decide, by decide⟩ iV_X11_slipOf g_X11_127) (fx_ac (ev_V (kx393 h) (by decide) rfl ⟨by decide, by decide⟩ iV_X7_tell g_X11_273) (fx_ac (ev_V (kx393 h) (by decide) rfl ⟨by decide, by decide⟩ iV_X7_tell g_X11_273) (fx_an)))))⟩ d_X11_hint kx394_k
-- X7_untellNow 6 i
def kx395_c : fx_C := ([.inr (.inr 7), .inl (-2147483648, 2147483647)], [], [(some (.inl (0, 0)), [.inr (.inr 7), .inl (-2147483648, 2147483647)], []), (some (.inl (1, 1)), [.inr (.inr 7), .inl (0, 29)], [((0, 10), .inl (1, 30))])], [(1000, 40)])
def kx395_a : List fx_N := []
def kx395_s : List fx_D := []
def kx395_x : fx_X := ([], [(24, 7, 4), (58, 7, 10), (71, 7, 11)], [], [], [], [])
set_option maxRecDepth 100000 in
theorem kx395_k : fx_chk TX 2 kx395_c 3 kx395_x t_X7_untellNow kx395_a kx395_s 22 = true := by decide +kernel
set_option maxRecDepth 100000 in
theorem kx395 {l : Launch} {E : (Nat → Prop) → State → Prop} {ad : List Nat} {D : va_G} {gs : List Nat} {cy : Nat → ClassId} (h : fxX E D cy) : fx_Met l yX7_untellNow (.code yX7_untellNow cX7_untellNow 2 (some .boolean) :: wsL_law) ({ frames := 0, cells := 0, slots := 0, locals := 0 }) E (gs, TX, cy, fun _ => True) ad D classes kx395_c :=
  fx_sound (x := kx395_x) (tb := t_X7_untellNow) (an := kx395_a) (sp := kx395_s) (rk := 3) 22 h.1 (fun _ _ _ _ _ _ => trivial) (fun _ _ _ _ _ _ => trivial) (ht_tys cy) (by decide) rfl ⟨fx_an, (fx_ac fl_X7_24 (fx_ac fl_X7_58 (fx_ac fl_X7_71 (fx_an)))), fx_an, fx_an, fx_an, fx_an⟩ d_X7_untellNow kx395_k
-- X11_untell 0 i
def kx396_c : fx_C := ([.inr (.inr 1), .inl (-2147483648, 2147483647)], [], [(some (.inl (1, 1)), [.inr (.inr 1), .inl (0, 29)], [((0, 5), .inr (.inr 7)), ((2, 10), .inl (1, 30))]), (some (.inl (0, 0)), [.inr (.inr 1), .inl (-2147483648, 2147483647)], [])], [(1000, 40)])
def kx396_a : List fx_N := []
def kx396_s : List fx_D := []
def kx396_x : fx_X := ([], [(47, 11, 5)], [], [], [], [(5, 276, 7, kx395_c)])
set_option maxRecDepth 100000 in
theorem kx396_k : fx_chk TX 2 kx396_c 3 kx396_x t_X11_untell kx396_a kx396_s 7 = true := by decide +kernel
set_option maxRecDepth 100000 in
theorem kx396 {l : Launch} {E : (Nat → Prop) → State → Prop} {ad : List Nat} {D : va_G} {gs : List Nat} {cy : Nat → ClassId} (h : fxX E D cy) : fx_Met l yX11_untell (.code yX11_untell cX11_untell 2 (some .boolean) :: wsL_law) ({ frames := 1, cells := 0, slots := 0, locals := 21 }) E (gs, TX, cy, fun _ => True) ad D classes kx396_c :=
  fx_sound (x := kx396_x) (tb := t_X11_untell) (an := kx396_a) (sp := kx396_s) (rk := 3) 7 h.1 (fun _ _ _ _ _ _ => trivial) (fun _ _ _ _ _ _ => trivial) (ht_tys cy) (by decide) rfl ⟨fx_an, (fx_ac fl_X11_47 (fx_an)), fx_an, fx_an, fx_an, (fx_ac (ev_V (kx395 h) (by decide) rfl ⟨by decide, by decide⟩ iV_X7_untellNow g_X11_276) (fx_an))⟩ d_X11_untell kx396_k
-- X7_goOn 6 i
def kx397_c : fx_C := ([.inr (.inr 7), .inl (0, 1000)], [], [(some (.inl (-1, -1)), [.inr (.inr 7), .inl (0, 1000)], []), (some (.inl (-2147483648, 2147483647)), [.inr (.inr 7), .inl (0, 1000)], [])], [(7, 11)])
def kx397_a : List fx_N := []
def kx397_s : List fx_D := []
def kx397_x : fx_X := ([], [(71, 7, 11)], [(71, 7, 11, 0)], [(74, 100000)], [], [])
set_option maxRecDepth 100000 in
theorem kx397_k : fx_chk TX 2 kx397_c 0 kx397_x t_X7_goOn kx397_a kx397_s 17 = true := by decide +kernel
set_option maxRecDepth 100000 in
theorem kx397 {l : Launch} {E : (Nat → Prop) → State → Prop} {ad : List Nat} {D : va_G} {gs : List Nat} {cy : Nat → ClassId} (h : fxX E D cy) : fx_Met l yX7_goOn (.code yX7_goOn cX7_goOn 2 (some .int) :: wsL_law) ({ frames := 0, cells := 0, slots := 0, locals := 0 }) E (gs, TX, cy, fun _ => True) ad D classes kx397_c :=
  fx_sound (x := kx397_x) (tb := t_X7_goOn) (an := kx397_a) (sp := kx397_s) (rk := 0) 17 h.1 (fun _ _ _ _ _ _ => trivial) (fun _ _ _ _ _ _ => trivial) (ht_tys cy) (by decide) rfl ⟨fx_an, (fx_ac fl_X7_71 (fx_an)), (fx_ac pl_X7_71 (fx_an)), (fx_ac kc_X7_74 (fx_an)), fx_an, fx_an⟩ d_X7_goOn kx397_k
-- X11_later 0 i
def kx398_c : fx_C := ([.inr (.inr 1), .inl (-2147483648, 2147483647)], [], [(some (.inl (-1, -1)), [.inr (.inr 1), .inl (-2147483648, 2147483647)], []), (some (.inl (-2147483648, 2147483647)), [.inr (.inr 1), .inl (0, 1000)], [])], [(7, 11)])
def kx398_a : List fx_N := []
def kx398_s : List fx_D := []
def kx398_x : fx_X := ([], [(47, 11, 5)], [], [], [], [(20, 279, 7, kx397_c)])
set_option maxRecDepth 100000 in
theorem kx398_k : fx_chk TX 2 kx398_c 0 kx398_x t_X11_later kx398_a kx398_s 12 = true := by decide +kernel
set_option maxRecDepth 100000 in
theorem kx398 {l : Launch} {E : (Nat → Prop) → State → Prop} {ad : List Nat} {D : va_G} {gs : List Nat} {cy : Nat → ClassId} (h : fxX E D cy) : fx_Met l yX11_later (.code yX11_later cX11_later 2 (some .int) :: wsL_law) ({ frames := 1, cells := 0, slots := 0, locals := 21 }) E (gs, TX, cy, fun _ => True) ad D classes kx398_c :=
  fx_sound (x := kx398_x) (tb := t_X11_later) (an := kx398_a) (sp := kx398_s) (rk := 0) 12 h.1 (fun _ _ _ _ _ _ => trivial) (fun _ _ _ _ _ _ => trivial) (ht_tys cy) (by decide) rfl ⟨fx_an, (fx_ac fl_X11_47 (fx_an)), fx_an, fx_an, fx_an, (fx_ac (ev_V (kx397 h) (by decide) rfl ⟨by decide, by decide⟩ iV_X7_goOn g_X11_279) (fx_an))⟩ d_X11_later kx398_k
-- X11_seats 0 i
def kx399_c : fx_C := ([.inr (.inr 1), .inl (-2147483648, 2147483647)], [], [(some (.inl (-2147483648, 2147483647)), [.inr (.inr 1), .inl (-2147483648, 2147483647)], [])], [(1, 1), (7, 12), (1000, 16), (1000, 41), (1000, 42), (1000, 43)])
def kx399_a : List fx_N := []
def kx399_s : List fx_D := []
def kx399_x : fx_X := ([], [(47, 11, 5)], [], [], [], [(5, 282, 7, kx385_c)])
set_option maxRecDepth 100000 in
theorem kx399_k : fx_chk TX 2 kx399_c 0 kx399_x t_X11_seats kx399_a kx399_s 7 = true := by decide +kernel
set_option maxRecDepth 100000 in
theorem kx399 {l : Launch} {E : (Nat → Prop) → State → Prop} {ad : List Nat} {D : va_G} {gs : List Nat} {cy : Nat → ClassId} (h : fxX E D cy) : fx_Met l yX11_seats (.code yX11_seats cX11_seats 2 (some .int) :: wsL_law) ({ frames := 10, cells := 0, slots := 0, locals := 223 }) E (gs, TX, cy, fun _ => True) ad D classes kx399_c :=
  fx_sound (x := kx399_x) (tb := t_X11_seats) (an := kx399_a) (sp := kx399_s) (rk := 0) 7 h.1 (fun _ _ _ _ _ _ => trivial) (fun _ _ _ _ _ _ => trivial) (ht_tys cy) (by decide) rfl ⟨fx_an, (fx_ac fl_X11_47 (fx_an)), fx_an, fx_an, fx_an, (fx_ac (ev_V (kx385 h) (by decide) rfl ⟨by decide, by decide⟩ iV_X7_countKnown g_X11_282) (fx_an))⟩ d_X11_seats kx399_k
-- X7_countAt 6 i i
def kx400_c : fx_C := ([.inr (.inr 7), .inl (0, 4), .inl (0, 4)], [], [(some (.inl (-2147483648, 2147483647)), [.inr (.inr 7), .inl (0, 4), .inl (0, 4)], [])], [])
def kx400_a : List fx_N := []
def kx400_s : List fx_D := []
def kx400_x : fx_X := ([], [(33, 7, 7)], [], [], [], [])
set_option maxRecDepth 100000 in
theorem kx400_k : fx_chk TX 4 kx400_c 0 kx400_x t_X7_countAt kx400_a kx400_s 21 = true := by decide +kernel
set_option maxRecDepth 100000 in
theorem kx400 {l : Launch} {E : (Nat → Prop) → State → Prop} {ad : List Nat} {D : va_G} {gs : List Nat} {cy : Nat → ClassId} (h : fxX E D cy) : fx_Met l yX7_countAt (.code yX7_countAt cX7_countAt 4 (some .int) :: wsL_law) ({ frames := 0, cells := 0, slots := 0, locals := 0 }) E (gs, TX, cy, fun _ => True) ad D classes kx400_c :=
  fx_sound (x := kx400_x) (tb := t_X7_countAt) (an := kx400_a) (sp := kx400_s) (rk := 0) 21 h.1 (fun _ _ _ _ _ _ => trivial) (fun _ _ _ _ _ _ => trivial) (ht_tys cy) (by decide) rfl ⟨fx_an, (fx_ac fl_X7_33 (fx_an)), fx_an, fx_an, fx_an, fx_an⟩ d_X7_countAt kx400_k
-- X7_surePlace 6 i
def kx401_c : fx_C := ([.inr (.inr 7), .inl (0, 4)], [], [(some (.inl (0, 4)), [.inr (.inr 7), .inl (0, 4)], [((0, 9), .inl (1, 5)), ((0, 12), .inl (1, 2147483647))]), (some (.inl (-2, -2)), [.inr (.inr 7), .inl (0, 4)], [((0, 9), .inl (1, 5))]), (some (.inl (-1, -1)), [.inr (.inr 7), .inl (0, 4)], [])], [])
def kx401_a : List fx_N := [(2, [(0, .inr (.inr 7)), (1, .inl (0, 4)), (2, .inl (0, 5))], [], [(0, 0), (1, 2), (0, 0)], [(0, 0), (1, 1)])]
def kx401_s : List fx_D := []
def kx401_x : fx_X := ([], [(57, 7, 9), (79, 7, 12)], [], [], [], [(13, 99, 7, kx400_c)])
set_option maxRecDepth 100000 in
theorem kx401_k : fx_chk TX 4 kx401_c 0 kx401_x t_X7_surePlace kx401_a kx401_s 20 = true := by decide +kernel
set_option maxRecDepth 100000 in
theorem kx401 {l : Launch} {E : (Nat → Prop) → State → Prop} {ad : List Nat} {D : va_G} {gs : List Nat} {cy : Nat → ClassId} (h : fxX E D cy) : fx_Met l yX7_surePlace (.code yX7_surePlace cX7_surePlace 4 (some .int) :: wsL_law) ({ frames := 1, cells := 0, slots := 0, locals := 23 }) E (gs, TX, cy, fun _ => True) ad D classes kx401_c :=
  fx_sound (x := kx401_x) (tb := t_X7_surePlace) (an := kx401_a) (sp := kx401_s) (rk := 0) 20 h.1 (fun _ _ _ _ _ _ => trivial) (fun _ _ _ _ _ _ => trivial) (ht_tys cy) (by decide) rfl ⟨fx_an, (fx_ac fl_X7_57 (fx_ac fl_X7_79 (fx_an))), fx_an, fx_an, fx_an, (fx_ac (ev_V (kx400 h) (by decide) rfl ⟨by decide, by decide⟩ iV_X7_countAt g_X7_99) (fx_an))⟩ d_X7_surePlace kx401_k
-- X11_sure 0 i i
def kx402_c : fx_C := ([.inr (.inr 1), .inl (-2147483648, 2147483647), .inl (-2147483648, 2147483647)], [], [(some (.inl (-1, -1)), [.inr (.inr 1), .inl (-2147483648, 2147483647), .inl (-2147483648, 2147483647)], []), (some (.inl (-2, -2)), [.inr (.inr 1), .inl (0, 4), .inl (-2147483648, 2147483647)], [((0, 5), .inr (.inr 7)), ((3, 9), .inl (1, 5)), ((0, 8), .inr (.inr 9)), ((5, 9), .inl (1, 5))]), (some (.inl (0, 4)), [.inr (.inr 1), .inl (0, 4), .inl (-2147483648, 2147483647)], [((0, 5), .inr (.inr 7)), ((3, 9), .inl (1, 5)), ((3, 12), .inl (1, 2147483647)), ((0, 8), .inr (.inr 9)), ((6, 9), .inl (1, 5))])], [(1, 1), (7, 12), (1000, 16), (1000, 41), (1000, 42), (1000, 43)])
def kx402_a : List fx_N := []
def kx402_s : List fx_D := []
def kx402_x : fx_X := ([], [(47, 11, 5)], [], [], [], [(2, 127, 11, kx124_c), (13, 282, 7, kx385_c), (26, 285, 7, kx401_c)])
set_option maxRecDepth 100000 in
theorem kx402_k : fx_chk TX 3 kx402_c 0 kx402_x t_X11_sure kx402_a kx402_s 16 = true := by decide +kernel
set_option maxRecDepth 100000 in
theorem kx402 {l : Launch} {E : (Nat → Prop) → State → Prop} {ad : List Nat} {D : va_G} {gs : List Nat} {cy : Nat → ClassId} (h : fxX E D cy) : fx_Met l yX11_sure (.code yX11_sure cX11_sure 3 (some .int) :: wsL_law) ({ frames := 10, cells := 0, slots := 0, locals := 223 }) E (gs, TX, cy, fun _ => True) ad D classes kx402_c :=
  fx_sound (x := kx402_x) (tb := t_X11_sure) (an := kx402_a) (sp := kx402_s) (rk := 0) 16 h.1 (fun _ _ _ _ _ _ => trivial) (fun _ _ _ _ _ _ => trivial) (ht_tys cy) (by decide) rfl ⟨fx_an, (fx_ac fl_X11_47 (fx_an)), fx_an, fx_an, fx_an, (fx_ac (ev_V (kx124 h) (by decide) rfl ⟨by decide, by decide⟩ iV_X11_slipOf g_X11_127) (fx_ac (ev_V (kx385 h) (by decide) rfl ⟨by decide, by decide⟩ iV_X7_countKnown g_X11_282) (fx_ac (ev_V (kx401 h) (by decide) rfl ⟨by decide, by decide⟩ iV_X7_surePlace g_X11_285) (fx_an))))⟩ d_X11_sure kx402_k
-- X7_mostLeft 6 i
def kx403_c : fx_C := ([.inr (.inr 7), .inl (0, 4)], [], [(some (.inl (0, 2147483647)), [.inr (.inr 7), .inl (0, 4)], [])], [])
def kx403_a : List fx_N := [(4, [(0, .inr (.inr 7)), (1, .inl (0, 4)), (2, .inl (0, 2147483647)), (3, .inl (0, 5))], [], [(0, 0), (1, 3), (0, 0)], [(0, 0), (1, 1)])]
def kx403_s : List fx_D := []
def kx403_x : fx_X := ([], [(57, 7, 9)], [], [], [], [(16, 99, 7, kx400_c), (19, 105, 1001, ([], [], [], []))])
set_option maxRecDepth 100000 in
theorem kx403_k : fx_chk TX 4 kx403_c 0 kx403_x t_X7_mostLeft kx403_a kx403_s 16 = true := by decide +kernel
set_option maxRecDepth 100000 in
theorem kx403 {l : Launch} {E : (Nat → Prop) → State → Prop} {ad : List Nat} {D : va_G} {gs : List Nat} {cy : Nat → ClassId} (h : fxX E D cy) : fx_Met l yX7_mostLeft (.code yX7_mostLeft cX7_mostLeft 4 (some .int) :: wsL_law) ({ frames := 1, cells := 0, slots := 0, locals := 23 }) E (gs, TX, cy, fun _ => True) ad D classes kx403_c :=
  fx_sound (x := kx403_x) (tb := t_X7_mostLeft) (an := kx403_a) (sp := kx403_s) (rk := 0) 16 h.1 (fun _ _ _ _ _ _ => trivial) (fun _ _ _ _ _ _ => trivial) (ht_tys cy) (by decide) rfl ⟨fx_an, (fx_ac fl_X7_57 (fx_an)), fx_an, fx_an, fx_an, (fx_ac (ev_V (kx400 h) (by decide) rfl ⟨by decide, by decide⟩ iV_X7_countAt g_X7_99) (fx_ac (ev_M (by decide) ⟨by decide, by decide, m_137, m_1686, m_136, m_138⟩) (fx_an)))⟩ d_X7_mostLeft kx403_k
-- X7_slipToAsk 6
def kx404_c : fx_C := ([.inr (.inr 7)], [], [(some (.inl (0, 4)), [.inr (.inr 7)], [])], [])
def kx404_a : List fx_N := [(4, [(0, .inr (.inr 7)), (1, .inl (0, 4)), (2, .inl (1, 5))], [], [(0, 0), (1, 2), (0, 0)], [(0, 0)])]
def kx404_s : List fx_D := []
def kx404_x : fx_X := ([], [(57, 7, 9)], [], [], [], [(14, 102, 7, kx403_c), (19, 102, 7, kx403_c)])
set_option maxRecDepth 100000 in
theorem kx404_k : fx_chk TX 3 kx404_c 0 kx404_x t_X7_slipToAsk kx404_a kx404_s 18 = true := by decide +kernel
set_option maxRecDepth 100000 in
theorem kx404 {l : Launch} {E : (Nat → Prop) → State → Prop} {ad : List Nat} {D : va_G} {gs : List Nat} {cy : Nat → ClassId} (h : fxX E D cy) : fx_Met l yX7_slipToAsk (.code yX7_slipToAsk cX7_slipToAsk 3 (some .int) :: wsL_law) ({ frames := 2, cells := 0, slots := 0, locals := 46 }) E (gs, TX, cy, fun _ => True) ad D classes kx404_c :=
  fx_sound (x := kx404_x) (tb := t_X7_slipToAsk) (an := kx404_a) (sp := kx404_s) (rk := 0) 18 h.1 (fun _ _ _ _ _ _ => trivial) (fun _ _ _ _ _ _ => trivial) (ht_tys cy) (by decide) rfl ⟨fx_an, (fx_ac fl_X7_57 (fx_an)), fx_an, fx_an, fx_an, (fx_ac (ev_V (kx403 h) (by decide) rfl ⟨by decide, by decide⟩ iV_X7_mostLeft g_X7_102) (fx_ac (ev_V (kx403 h) (by decide) rfl ⟨by decide, by decide⟩ iV_X7_mostLeft g_X7_102) (fx_an)))⟩ d_X7_slipToAsk kx404_k
-- X11_ask 0 i i
def kx405_c : fx_C := ([.inr (.inr 1), .inl (-2147483648, 2147483647), .inl (-2147483648, 2147483647)], [], [(some (.inl (-1, -1)), [.inr (.inr 1), .inl (-2147483648, 2147483647), .inl (-2147483648, 2147483647)], []), (some (.inl (0, 2147483647)), [.inr (.inr 1), .inl (0, 1), .inl (-2147483648, 2147483647)], [((0, 8), .inr (.inr 9)), ((3, 9), .inl (1, 5))])], [(1, 1), (7, 12), (1000, 16), (1000, 41), (1000, 42), (1000, 43)])
def kx405_a : List fx_N := []
def kx405_s : List fx_D := []
def kx405_x : fx_X := ([], [(47, 11, 5), (66, 11, 8), (105, 10, 9)], [], [], [], [(1, 193, 1000, kx176_c), (22, 282, 7, kx385_c), (34, 288, 7, kx404_c), (51, 291, 7, kx403_c)])
set_option maxRecDepth 100000 in
theorem kx405_k : fx_chk TX 4 kx405_c 0 kx405_x t_X11_ask kx405_a kx405_s 25 = true := by decide +kernel
set_option maxRecDepth 100000 in
theorem kx405 {l : Launch} {E : (Nat → Prop) → State → Prop} {ad : List Nat} {D : va_G} {gs : List Nat} {cy : Nat → ClassId} (h : fxX E D cy) : fx_Met l yX11_ask (.code yX11_ask cX11_ask 4 (some .int) :: wsL_law) ({ frames := 10, cells := 0, slots := 0, locals := 223 }) E (gs, TX, cy, fun _ => True) ad D classes kx405_c :=
  fx_sound (x := kx405_x) (tb := t_X11_ask) (an := kx405_a) (sp := kx405_s) (rk := 0) 25 h.1 (fun _ _ _ _ _ _ => trivial) (fun _ _ _ _ _ _ => trivial) (ht_tys cy) (by decide) rfl ⟨fx_an, (fx_ac fl_X11_47 (fx_ac fl_X11_66 (fx_ac fl_X11_105 (fx_an)))), fx_an, fx_an, fx_an, (fx_ac (ev_S (kx176 h) ⟨by decide, by decide⟩ iS_X11_isPart g_X11_193) (fx_ac (ev_V (kx385 h) (by decide) rfl ⟨by decide, by decide⟩ iV_X7_countKnown g_X11_282) (fx_ac (ev_V (kx404 h) (by decide) rfl ⟨by decide, by decide⟩ iV_X7_slipToAsk g_X11_288) (fx_ac (ev_V (kx403 h) (by decide) rfl ⟨by decide, by decide⟩ iV_X7_mostLeft g_X11_291) (fx_an)))))⟩ d_X11_ask kx405_k
-- X5_hasBox i
def kx406_c : fx_C := ([.inl (-2147483648, 2147483647)], [], [(some (.inl (1, 1)), [.inl (0, 2)], []), (some (.inl (0, 0)), [.inl (-2147483648, 2147483647)], [])], [])
def kx406_a : List fx_N := []
def kx406_s : List fx_D := []
def kx406_x : fx_X := ([], [], [], [], [], [])
set_option maxRecDepth 100000 in
theorem kx406_k : fx_chk TX 1 kx406_c 3 kx406_x t_X5_hasBox kx406_a kx406_s 10 = true := by decide +kernel
set_option maxRecDepth 100000 in
theorem kx406 {l : Launch} {E : (Nat → Prop) → State → Prop} {ad : List Nat} {D : va_G} {gs : List Nat} {cy : Nat → ClassId} (h : fxX E D cy) : fx_Met l yX5_hasBox (.code yX5_hasBox cX5_hasBox 1 (some .boolean) :: wsL_law) ({ frames := 0, cells := 0, slots := 0, locals := 0 }) E (gs, TX, cy, fun _ => True) ad D classes kx406_c :=
  fx_sound (x := kx406_x) (tb := t_X5_hasBox) (an := kx406_a) (sp := kx406_s) (rk := 3) 10 h.1 (fun _ _ _ _ _ _ => trivial) (fun _ _ _ _ _ _ => trivial) (ht_tys cy) (by decide) rfl ⟨fx_an, fx_an, fx_an, fx_an, fx_an, fx_an⟩ d_X5_hasBox kx406_k
-- X5_keepIn 2 i
def kx407_c : fx_C := ([.inr (.inr 3), .inl (-2147483648, 2147483647)], [], [(some (.inl (-1, -1)), [.inr (.inr 3), .inl (-2147483648, 2147483647)], []), (some (.inl (-2147483648, 2147483647)), [.inr (.inr 3), .inl (0, 2)], [])], [(1, 1), (8, 1), (8, 2), (1000, 14), (1000, 30)])
def kx407_a : List fx_N := []
def kx407_s : List fx_D := []
def kx407_x : fx_X := ([], [(12, 5, 0), (25, 5, 3), (28, 5, 4), (45, 8, 1)], [], [], [], [(1, 100, 1000, kx406_c), (19, 103, 8, kx114_c)])
set_option maxRecDepth 100000 in
theorem kx407_k : fx_chk TX 2 kx407_c 0 kx407_x t_X5_keepIn kx407_a kx407_s 21 = true := by decide +kernel
set_option maxRecDepth 100000 in
theorem kx407 {l : Launch} {E : (Nat → Prop) → State → Prop} {ad : List Nat} {D : va_G} {gs : List Nat} {cy : Nat → ClassId} (h : fxX E D cy) : fx_Met l yX5_keepIn (.code yX5_keepIn cX5_keepIn 2 (some .int) :: wsL_law) ({ frames := 4, cells := 0, slots := 0, locals := 84 }) E (gs, TX, cy, fun _ => True) ad D classes kx407_c :=
  fx_sound (x := kx407_x) (tb := t_X5_keepIn) (an := kx407_a) (sp := kx407_s) (rk := 0) 21 h.1 (fun _ _ _ _ _ _ => trivial) (fun _ _ _ _ _ _ => trivial) (ht_tys cy) (by decide) rfl ⟨fx_an, (fx_ac fl_X5_12 (fx_ac fl_X5_25 (fx_ac fl_X5_28 (fx_ac fl_X5_45 (fx_an))))), fx_an, fx_an, fx_an, (fx_ac (ev_S (kx406 h) ⟨by decide, by decide⟩ iS_X5_hasBox g_X5_100) (fx_ac (ev_V (kx114 h) (by decide) rfl ⟨by decide, by decide⟩ iV_X8_copy g_X5_103) (fx_an)))⟩ d_X5_keepIn kx407_k
-- X11_image 0 i
def kx408_c : fx_C := ([.inr (.inr 1), .inl (-2147483648, 2147483647)], [], [(some (.inl (-2147483648, 2147483647)), [.inr (.inr 1), .inl (0, 2)], []), (some (.inl (-1, -1)), [.inr (.inr 1), .inl (-2147483648, 2147483647)], [])], [(1, 1), (8, 1), (8, 2), (1000, 14), (1000, 30)])
def kx408_a : List fx_N := []
def kx408_s : List fx_D := []
def kx408_x : fx_X := ([], [(19, 11, 1)], [], [], [], [(5, 294, 5, kx407_c)])
set_option maxRecDepth 100000 in
theorem kx408_k : fx_chk TX 2 kx408_c 0 kx408_x t_X11_image kx408_a kx408_s 7 = true := by decide +kernel
set_option maxRecDepth 100000 in
theorem kx408 {l : Launch} {E : (Nat → Prop) → State → Prop} {ad : List Nat} {D : va_G} {gs : List Nat} {cy : Nat → ClassId} (h : fxX E D cy) : fx_Met l yX11_image (.code yX11_image cX11_image 2 (some .int) :: wsL_law) ({ frames := 5, cells := 0, slots := 0, locals := 105 }) E (gs, TX, cy, fun _ => True) ad D classes kx408_c :=
  fx_sound (x := kx408_x) (tb := t_X11_image) (an := kx408_a) (sp := kx408_s) (rk := 0) 7 h.1 (fun _ _ _ _ _ _ => trivial) (fun _ _ _ _ _ _ => trivial) (ht_tys cy) (by decide) rfl ⟨fx_an, (fx_ac fl_X11_19 (fx_an)), fx_an, fx_an, fx_an, (fx_ac (ev_V (kx407 h) (by decide) rfl ⟨by decide, by decide⟩ iV_X5_keepIn g_X11_294) (fx_an))⟩ d_X11_image kx408_k
-- X5_bringBack 2 i
def kx409_c : fx_C := ([.inr (.inr 3), .inl (-2147483648, 2147483647)], [], [(some (.inl (-1, -1)), [.inr (.inr 3), .inl (-2147483648, 2147483647)], []), (some (.inl (-2147483648, 2147483647)), [.inr (.inr 3), .inl (0, 2)], [((0, 5), .inl (0, 0)), ((0, 6), .inl (0, 0))])], [(1, 1), (5, 5), (5, 6), (8, 1), (8, 2), (1000, 14)])
def kx409_a : List fx_N := []
def kx409_s : List fx_D := []
def kx409_x : fx_X := ([], [(12, 5, 0), (25, 5, 3), (28, 5, 4), (45, 8, 1)], [], [], [], [(1, 100, 1000, kx406_c), (28, 103, 8, kx114_c), (32, 55, 5, kx115_c)])
set_option maxRecDepth 100000 in
theorem kx409_k : fx_chk TX 2 kx409_c 0 kx409_x t_X5_bringBack kx409_a kx409_s 23 = true := by decide +kernel
set_option maxRecDepth 100000 in
theorem kx409 {l : Launch} {E : (Nat → Prop) → State → Prop} {ad : List Nat} {D : va_G} {gs : List Nat} {cy : Nat → ClassId} (h : fxX E D cy) : fx_Met l yX5_bringBack (.code yX5_bringBack cX5_bringBack 2 (some .int) :: wsL_law) ({ frames := 5, cells := 0, slots := 0, locals := 104 }) E (gs, TX, cy, fun _ => True) ad D classes kx409_c :=
  fx_sound (x := kx409_x) (tb := t_X5_bringBack) (an := kx409_a) (sp := kx409_s) (rk := 0) 23 h.1 (fun _ _ _ _ _ _ => trivial) (fun _ _ _ _ _ _ => trivial) (ht_tys cy) (by decide) rfl ⟨fx_an, (fx_ac fl_X5_12 (fx_ac fl_X5_25 (fx_ac fl_X5_28 (fx_ac fl_X5_45 (fx_an))))), fx_an, fx_an, fx_an, (fx_ac (ev_S (kx406 h) ⟨by decide, by decide⟩ iS_X5_hasBox g_X5_100) (fx_ac (ev_V (kx114 h) (by decide) rfl ⟨by decide, by decide⟩ iV_X8_copy g_X5_103) (fx_ac (ev_V (kx115 h) (by decide) rfl ⟨by decide, by decide⟩ iV_X5_forgetActs g_X5_55) (fx_an))))⟩ d_X5_bringBack kx409_k
-- X11_back 0 i
def kx410_c : fx_C := ([.inr (.inr 1), .inl (-2147483648, 2147483647)], [], [(some (.inl (-2147483648, 2147483647)), [.inr (.inr 1), .inl (0, 2)], [((0, 1), .inr (.inr 3)), ((2, 5), .inl (0, 0)), ((2, 6), .inl (0, 0))]), (some (.inl (-1, -1)), [.inr (.inr 1), .inl (-2147483648, 2147483647)], [])], [(1, 1), (5, 5), (5, 6), (8, 1), (8, 2), (1000, 14)])
def kx410_a : List fx_N := []
def kx410_s : List fx_D := []
def kx410_x : fx_X := ([], [(19, 11, 1)], [], [], [], [(5, 297, 5, kx409_c)])
set_option maxRecDepth 100000 in
theorem kx410_k : fx_chk TX 2 kx410_c 0 kx410_x t_X11_back kx410_a kx410_s 7 = true := by decide +kernel
set_option maxRecDepth 100000 in
theorem kx410 {l : Launch} {E : (Nat → Prop) → State → Prop} {ad : List Nat} {D : va_G} {gs : List Nat} {cy : Nat → ClassId} (h : fxX E D cy) : fx_Met l yX11_back (.code yX11_back cX11_back 2 (some .int) :: wsL_law) ({ frames := 6, cells := 0, slots := 0, locals := 125 }) E (gs, TX, cy, fun _ => True) ad D classes kx410_c :=
  fx_sound (x := kx410_x) (tb := t_X11_back) (an := kx410_a) (sp := kx410_s) (rk := 0) 7 h.1 (fun _ _ _ _ _ _ => trivial) (fun _ _ _ _ _ _ => trivial) (ht_tys cy) (by decide) rfl ⟨fx_an, (fx_ac fl_X11_19 (fx_an)), fx_an, fx_an, fx_an, (fx_ac (ev_V (kx409 h) (by decide) rfl ⟨by decide, by decide⟩ iV_X5_bringBack g_X11_297) (fx_an))⟩ d_X11_back kx410_k
-- X5_actsTakenBack 2
def kx411_c : fx_C := ([.inr (.inr 3)], [], [(some (.inl (-40, 40)), [.inr (.inr 3)], [])], [])
def kx411_a : List fx_N := []
def kx411_s : List fx_D := []
def kx411_x : fx_X := ([], [(91, 5, 5), (97, 5, 6)], [], [], [], [])
set_option maxRecDepth 100000 in
theorem kx411_k : fx_chk TX 1 kx411_c 0 kx411_x t_X5_actsTakenBack kx411_a kx411_s 8 = true := by decide +kernel
set_option maxRecDepth 100000 in
theorem kx411 {l : Launch} {E : (Nat → Prop) → State → Prop} {ad : List Nat} {D : va_G} {gs : List Nat} {cy : Nat → ClassId} (h : fxX E D cy) : fx_Met l yX5_actsTakenBack (.code yX5_actsTakenBack cX5_actsTakenBack 1 (some .int) :: wsL_law) ({ frames := 0, cells := 0, slots := 0, locals := 0 }) E (gs, TX, cy, fun _ => True) ad D classes kx411_c :=
  fx_sound (x := kx411_x) (tb := t_X5_actsTakenBack) (an := kx411_a) (sp := kx411_s) (rk := 0) 8 h.1 (fun _ _ _ _ _ _ => trivial) (fun _ _ _ _ _ _ => trivial) (ht_tys cy) (by decide) rfl ⟨fx_an, (fx_ac fl_X5_91 (fx_ac fl_X5_97 (fx_an))), fx_an, fx_an, fx_an, fx_an⟩ d_X5_actsTakenBack kx411_k
-- X5_actsDone 2
def kx412_c : fx_C := ([.inr (.inr 3)], [], [(some (.inl (0, 40)), [.inr (.inr 3)], [])], [])
def kx412_a : List fx_N := []
def kx412_s : List fx_D := []
def kx412_x : fx_X := ([], [(91, 5, 5)], [], [], [], [])
set_option maxRecDepth 100000 in
theorem kx412_k : fx_chk TX 1 kx412_c 0 kx412_x t_X5_actsDone kx412_a kx412_s 5 = true := by decide +kernel
set_option maxRecDepth 100000 in
theorem kx412 {l : Launch} {E : (Nat → Prop) → State → Prop} {ad : List Nat} {D : va_G} {gs : List Nat} {cy : Nat → ClassId} (h : fxX E D cy) : fx_Met l yX5_actsDone (.code yX5_actsDone cX5_actsDone 1 (some .int) :: wsL_law) ({ frames := 0, cells := 0, slots := 0, locals := 0 }) E (gs, TX, cy, fun _ => True) ad D classes kx412_c :=
  fx_sound (x := kx412_x) (tb := t_X5_actsDone) (an := kx412_a) (sp := kx412_s) (rk := 0) 5 h.1 (fun _ _ _ _ _ _ => trivial) (fun _ _ _ _ _ _ => trivial) (ht_tys cy) (by decide) rfl ⟨fx_an, (fx_ac fl_X5_91 (fx_an)), fx_an, fx_an, fx_an, fx_an⟩ d_X5_actsDone kx412_k
-- X11_about 0 i
def kx413_c : fx_C := ([.inr (.inr 1), .inl (-2147483648, 2147483647)], [], [(some (.inl (-1, -1)), [.inr (.inr 1), .inl (-2147483648, 2147483647)], []), (some (.inl (-2147483648, 2147483647)), [.inr (.inr 1), .inl (0, 12)], [])], [])
def kx413_a : List fx_N := []
def kx413_s : List fx_D := []
def kx413_x : fx_X := ([], [(10, 11, 0), (19, 11, 1), (47, 11, 5), (56, 11, 6), (66, 11, 8), (70, 6, 0), (83, 9, 2), (105, 10, 9), (114, 5, 0), (118, 8, 0), (134, 1, 1), (300, 10, 7), (303, 8, 1), (306, 8, 2), (309, 10, 8), (318, 7, 10), (321, 7, 11), (324, 10, 6), (328, 0, 6)], [], [], [], [(132, 312, 5, kx412_c), (140, 315, 5, kx411_c)])
set_option maxRecDepth 100000 in
theorem kx413_k : fx_chk TX 2 kx413_c 0 kx413_x t_X11_about kx413_a kx413_s 10 = true := by decide +kernel
set_option maxRecDepth 100000 in
theorem kx413 {l : Launch} {E : (Nat → Prop) → State → Prop} {ad : List Nat} {D : va_G} {gs : List Nat} {cy : Nat → ClassId} (h : fxX E D cy) : fx_Met l yX11_about (.code yX11_about cX11_about 2 (some .int) :: wsL_law) ({ frames := 1, cells := 0, slots := 0, locals := 20 }) E (gs, TX, cy, fun _ => True) ad D classes kx413_c :=
  fx_sound (x := kx413_x) (tb := t_X11_about) (an := kx413_a) (sp := kx413_s) (rk := 0) 10 h.1 (fun _ _ _ _ _ _ => trivial) (fun _ _ _ _ _ _ => trivial) (ht_tys cy) (by decide) rfl ⟨fx_an, (fx_ac fl_X11_10 (fx_ac fl_X11_19 (fx_ac fl_X11_47 (fx_ac fl_X11_56 (fx_ac fl_X11_66 (fx_ac fl_X11_70 (fx_ac fl_X11_83 (fx_ac fl_X11_105 (fx_ac fl_X11_114 (fx_ac fl_X11_118 (fx_ac fl_X11_134 (fx_ac fl_X11_300 (fx_ac fl_X11_303 (fx_ac fl_X11_306 (fx_ac fl_X11_309 (fx_ac fl_X11_318 (fx_ac fl_X11_321 (fx_ac fl_X11_324 (fx_ac fl_X11_328 (fx_an)))))))))))))))))))), fx_an, fx_an, fx_an, (fx_ac (ev_V (kx412 h) (by decide) rfl ⟨by decide, by decide⟩ iV_X5_actsDone g_X11_312) (fx_ac (ev_V (kx411 h) (by decide) rfl ⟨by decide, by decide⟩ iV_X5_actsTakenBack g_X11_315) (fx_an)))⟩ d_X11_about kx413_k
