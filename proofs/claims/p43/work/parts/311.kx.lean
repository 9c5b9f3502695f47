-- X2_bestTurn 4 11 i i ('c', 11)
def kx306_c : fx_C := ([.inr (.inr 5), .inr (.inr 12), .inl (0, 4095), .inl (0, 1)], [((1, 1), .inl (11, 11))], [(some (.inl (-2147483648, 2147483647)), [.inr (.inr 5), .inr (.inr 12), .inl (0, 4095), .inl (0, 1)], [])], [])
def kx306_a : List fx_N := [(9, [(6, .inl (0, 0)), (0, .inr (.inr 5)), (1, .inr (.inr 12)), (2, .inl (0, 4095)), (3, .inl (0, 1)), (4, .inl (0, 0)), (5, .inl (0, 0))], [((2, 1), .inl (11, 11))], [(0, 11)], [(0, 1), (1, 2), (2, 3), (3, 4)]), (9, [(6, .inl (1, 1)), (0, .inr (.inr 5)), (1, .inr (.inr 12)), (2, .inl (0, 4095)), (3, .inl (0, 1)), (4, .inl (0, 1)), (5, .inl (-2147483648, 2147483647))], [((2, 1), .inl (11, 11))], [(0, 10)], [(0, 1), (1, 2), (2, 3), (3, 4)]), (9, [(6, .inl (2, 2)), (0, .inr (.inr 5)), (1, .inr (.inr 12)), (2, .inl (0, 4095)), (3, .inl (0, 1)), (4, .inl (0, 1)), (5, .inl (-2147483648, 2147483647))], [((2, 1), .inl (11, 11))], [(0, 9)], [(0, 1), (1, 2), (2, 3), (3, 4)]), (9, [(6, .inl (3, 3)), (0, .inr (.inr 5)), (1, .inr (.inr 12)), (2, .inl (0, 4095)), (3, .inl (0, 1)), (4, .inl (0, 1)), (5, .inl (-2147483648, 2147483647))], [((2, 1), .inl (11, 11))], [(0, 8)], [(0, 1), (1, 2), (2, 3), (3, 4)]), (9, [(6, .inl (4, 4)), (0, .inr (.inr 5)), (1, .inr (.inr 12)), (2, .inl (0, 4095)), (3, .inl (0, 1)), (4, .inl (0, 1)), (5, .inl (-2147483648, 2147483647))], [((2, 1), .inl (11, 11))], [(0, 7)], [(0, 1), (1, 2), (2, 3), (3, 4)]), (9, [(6, .inl (5, 5)), (0, .inr (.inr 5)), (1, .inr (.inr 12)), (2, .inl (0, 4095)), (3, .inl (0, 1)), (4, .inl (0, 1)), (5, .inl (-2147483648, 2147483647))], [((2, 1), .inl (11, 11))], [(0, 6)], [(0, 1), (1, 2), (2, 3), (3, 4)]), (9, [(6, .inl (6, 6)), (0, .inr (.inr 5)), (1, .inr (.inr 12)), (2, .inl (0, 4095)), (3, .inl (0, 1)), (4, .inl (0, 1)), (5, .inl (-2147483648, 2147483647))], [((2, 1), .inl (11, 11))], [(0, 5)], [(0, 1), (1, 2), (2, 3), (3, 4)]), (9, [(6, .inl (7, 7)), (0, .inr (.inr 5)), (1, .inr (.inr 12)), (2, .inl (0, 4095)), (3, .inl (0, 1)), (4, .inl (0, 1)), (5, .inl (-2147483648, 2147483647))], [((2, 1), .inl (11, 11))], [(0, 4)], [(0, 1), (1, 2), (2, 3), (3, 4)]), (9, [(6, .inl (8, 8)), (0, .inr (.inr 5)), (1, .inr (.inr 12)), (2, .inl (0, 4095)), (3, .inl (0, 1)), (4, .inl (0, 1)), (5, .inl (-2147483648, 2147483647))], [((2, 1), .inl (11, 11))], [(0, 3)], [(0, 1), (1, 2), (2, 3), (3, 4)]), (9, [(6, .inl (9, 9)), (0, .inr (.inr 5)), (1, .inr (.inr 12)), (2, .inl (0, 4095)), (3, .inl (0, 1)), (4, .inl (0, 1)), (5, .inl (-2147483648, 2147483647))], [((2, 1), .inl (11, 11))], [(0, 2)], [(0, 1), (1, 2), (2, 3), (3, 4)]), (9, [(6, .inl (10, 10)), (0, .inr (.inr 5)), (1, .inr (.inr 12)), (2, .inl (0, 4095)), (3, .inl (0, 1)), (4, .inl (0, 1)), (5, .inl (-2147483648, 2147483647))], [((2, 1), .inl (11, 11))], [(0, 1)], [(0, 1), (1, 2), (2, 3), (3, 4)]), (9, [(6, .inl (11, 11)), (0, .inr (.inr 5)), (1, .inr (.inr 12)), (2, .inl (0, 4095)), (3, .inl (0, 1)), (4, .inl (0, 1)), (5, .inl (-2147483648, 2147483647))], [((2, 1), .inl (11, 11))], [(0, 0)], [(0, 1), (1, 2), (2, 3), (3, 4)])]
def kx306_s : List fx_D := []
def kx306_x : fx_X := ([], [(11, 2, 0), (37, 1, 1)], [], [], [], [(22, 43, 1000, kx295_c), (22, 43, 1000, kx296_c), (22, 43, 1000, kx297_c), (22, 43, 1000, kx298_c), (22, 43, 1000, kx299_c), (22, 43, 1000, kx300_c), (22, 43, 1000, kx301_c), (22, 43, 1000, kx302_c), (22, 43, 1000, kx303_c), (22, 43, 1000, kx304_c), (22, 43, 1000, kx305_c)])
set_option maxRecDepth 100000 in
theorem kx306_k : fx_chk TX 9 kx306_c 0 kx306_x t_X2_bestTurn kx306_a kx306_s 38 = true := by decide +kernel
set_option maxRecDepth 100000 in
theorem kx306 {l : Launch} {E : (Nat → Prop) → State → Prop} {ad : List Nat} {D : va_G} {gs : List Nat} {cy : Nat → ClassId} (h : fxX E D cy) : fx_Met l yX2_bestTurn (.code yX2_bestTurn cX2_bestTurn 9 (some .int) :: wsL_law) ({ frames := 1, cells := 0, slots := 0, locals := 21 }) E (gs, TX, cy, fun _ => True) ad D classes kx306_c :=
  fx_sound (x := kx306_x) (tb := t_X2_bestTurn) (an := kx306_a) (sp := kx306_s) (rk := 0) 38 h.1 (fun _ _ _ _ _ _ => trivial) (fun _ _ _ _ _ _ => trivial) (ht_tys cy) (by decide) rfl ⟨fx_an, (fx_ac fl_X2_11 (fx_ac fl_X2_37 (fx_an))), fx_an, fx_an, fx_an, (fx_ac (ev_S (kx295 h) ⟨by decide, by decide⟩ iS_X2_bitOf g_X2_43) (fx_ac (ev_S (kx296 h) ⟨by decide, by decide⟩ iS_X2_bitOf g_X2_43) (fx_ac (ev_S (kx297 h) ⟨by decide, by decide⟩ iS_X2_bitOf g_X2_43) (fx_ac (ev_S (kx298 h) ⟨by decide, by decide⟩ iS_X2_bitOf g_X2_43) (fx_ac (ev_S (kx299 h) ⟨by decide, by decide⟩ iS_X2_bitOf g_X2_43) (fx_ac (ev_S (kx300 h) ⟨by decide, by decide⟩ iS_X2_bitOf g_X2_43) (fx_ac (ev_S (kx301 h) ⟨by decide, by decide⟩ iS_X2_bitOf g_X2_43) (fx_ac (ev_S (kx302 h) ⟨by decide, by decide⟩ iS_X2_bitOf g_X2_43) (fx_ac (ev_S (kx303 h) ⟨by decide, by decide⟩ iS_X2_bitOf g_X2_43) (fx_ac (ev_S (kx304 h) ⟨by decide, by decide⟩ iS_X2_bitOf g_X2_43) (fx_ac (ev_S (kx305 h) ⟨by decide, by decide⟩ iS_X2_bitOf g_X2_43) (fx_an))))))))))))⟩ d_X2_bestTurn kx306_k
-- X2_bitOf 11 i ('c', 0) ('c', 12)
def kx307_c : fx_C := ([.inr (.inr 12), .inl (0, 0)], [((0, 1), .inl (12, 12))], [(some (.inl (2048, 2048)), [.inr (.inr 12), .inl (0, 0)], [])], [])
def kx307_a : List fx_N := []
def kx307_s : List fx_D := []
def kx307_x : fx_X := ([], [(37, 1, 1)], [], [], [], [])
set_option maxRecDepth 100000 in
theorem kx307_k : fx_chk TX 2 kx307_c 0 kx307_x t_X2_bitOf kx307_a kx307_s 11 = true := by decide +kernel
set_option maxRecDepth 100000 in
theorem kx307 {l : Launch} {E : (Nat → Prop) → State → Prop} {ad : List Nat} {D : va_G} {gs : List Nat} {cy : Nat → ClassId} (h : fxX E D cy) : fx_Met l yX2_bitOf (.code yX2_bitOf cX2_bitOf 2 (some .int) :: wsL_law) ({ frames := 0, cells := 0, slots := 0, locals := 0 }) E (gs, TX, cy, fun _ => True) ad D classes kx307_c :=
  fx_sound (x := kx307_x) (tb := t_X2_bitOf) (an := kx307_a) (sp := kx307_s) (rk := 0) 11 h.1 (fun _ _ _ _ _ _ => trivial) (fun _ _ _ _ _ _ => trivial) (ht_tys cy) (by decide) rfl ⟨fx_an, (fx_ac fl_X2_37 (fx_an)), fx_an, fx_an, fx_an, fx_an⟩ d_X2_bitOf kx307_k
-- X2_bitOf 11 i ('c', 1) ('c', 12)
def kx308_c : fx_C := ([.inr (.inr 12), .inl (1, 1)], [((0, 1), .inl (12, 12))], [(some (.inl (1024, 1024)), [.inr (.inr 12), .inl (1, 1)], [])], [])
def kx308_a : List fx_N := []
def kx308_s : List fx_D := []
def kx308_x : fx_X := ([], [(37, 1, 1)], [], [], [], [])
set_option maxRecDepth 100000 in
theorem kx308_k : fx_chk TX 2 kx308_c 0 kx308_x t_X2_bitOf kx308_a kx308_s 11 = true := by decide +kernel
set_option maxRecDepth 100000 in
theorem kx308 {l : Launch} {E : (Nat → Prop) → State → Prop} {ad : List Nat} {D : va_G} {gs : List Nat} {cy : Nat → ClassId} (h : fxX E D cy) : fx_Met l yX2_bitOf (.code yX2_bitOf cX2_bitOf 2 (some .int) :: wsL_law) ({ frames := 0, cells := 0, slots := 0, locals := 0 }) E (gs, TX, cy, fun _ => True) ad D classes kx308_c :=
  fx_sound (x := kx308_x) (tb := t_X2_bitOf) (an := kx308_a) (sp := kx308_s) (rk := 0) 11 h.1 (fun _ _ _ _ _ _ => trivial) (fun _ _ _ _ _ _ => trivial) (ht_tys cy) (by decide) rfl ⟨fx_an, (fx_ac fl_X2_37 (fx_an)), fx_an, fx_an, fx_an, fx_an⟩ d_X2_bitOf kx308_k
-- X2_bitOf 11 i ('c', 2) ('c', 12)
def kx309_c : fx_C := ([.inr (.inr 12), .inl (2, 2)], [((0, 1), .inl (12, 12))], [(some (.inl (512, 512)), [.inr (.inr 12), .inl (2, 2)], [])], [])
def kx309_a : List fx_N := []
def kx309_s : List fx_D := []
def kx309_x : fx_X := ([], [(37, 1, 1)], [], [], [], [])
set_option maxRecDepth 100000 in
theorem kx309_k : fx_chk TX 2 kx309_c 0 kx309_x t_X2_bitOf kx309_a kx309_s 11 = true := by decide +kernel
set_option maxRecDepth 100000 in
theorem kx309 {l : Launch} {E : (Nat → Prop) → State → Prop} {ad : List Nat} {D : va_G} {gs : List Nat} {cy : Nat → ClassId} (h : fxX E D cy) : fx_Met l yX2_bitOf (.code yX2_bitOf cX2_bitOf 2 (some .int) :: wsL_law) ({ frames := 0, cells := 0, slots := 0, locals := 0 }) E (gs, TX, cy, fun _ => True) ad D classes kx309_c :=
  fx_sound (x := kx309_x) (tb := t_X2_bitOf) (an := kx309_a) (sp := kx309_s) (rk := 0) 11 h.1 (fun _ _ _ _ _ _ => trivial) (fun _ _ _ _ _ _ => trivial) (ht_tys cy) (by decide) rfl ⟨fx_an, (fx_ac fl_X2_37 (fx_an)), fx_an, fx_an, fx_an, fx_an⟩ d_X2_bitOf kx309_k
-- X2_bitOf 11 i ('c', 3) ('c', 12)
def kx310_c : fx_C := ([.inr (.inr 12), .inl (3, 3)], [((0, 1), .inl (12, 12))], [(some (.inl (256, 256)), [.inr (.inr 12), .inl (3, 3)], [])], [])
def kx310_a : List fx_N := []
def kx310_s : List fx_D := []
def kx310_x : fx_X := ([], [(37, 1, 1)], [], [], [], [])
set_option maxRecDepth 100000 in
theorem kx310_k : fx_chk TX 2 kx310_c 0 kx310_x t_X2_bitOf kx310_a kx310_s 11 = true := by decide +kernel
set_option maxRecDepth 100000 in
theorem kx310 {l : Launch} {E : (Nat → Prop) → State → Prop} {ad : List Nat} {D : va_G} {gs : List Nat} {cy : Nat → ClassId} (h : fxX E D cy) : fx_Met l yX2_bitOf (.code yX2_bitOf cX2_bitOf 2 (some .int) :: wsL_law) ({ frames := 0, cells := 0, slots := 0, locals := 0 }) E (gs, TX, cy, fun _ => True) ad D classes kx310_c :=
  fx_sound (x := kx310_x) (tb := t_X2_bitOf) (an := kx310_a) (sp := kx310_s) (rk := 0) 11 h.1 (fun _ _ _ _ _ _ => trivial) (fun _ _ _ _ _ _ => trivial) (ht_tys cy) (by decide) rfl ⟨fx_an, (fx_ac fl_X2_37 (fx_an)), fx_an, fx_an, fx_an, fx_an⟩ d_X2_bitOf kx310_k
-- X2_bitOf 11 i ('c', 4) ('c', 12)
def kx311_c : fx_C := ([.inr (.inr 12), .inl (4, 4)], [((0, 1), .inl (12, 12))], [(some (.inl (128, 128)), [.inr (.inr 12), .inl (4, 4)], [])], [])
def kx311_a : List fx_N := []
def kx311_s : List fx_D := []
def kx311_x : fx_X := ([], [(37, 1, 1)], [], [], [], [])
set_option maxRecDepth 100000 in
theorem kx311_k : fx_chk TX 2 kx311_c 0 kx311_x t_X2_bitOf kx311_a kx311_s 11 = true := by decide +kernel
set_option maxRecDepth 100000 in
theorem kx311 {l : Launch} {E : (Nat → Prop) → State → Prop} {ad : List Nat} {D : va_G} {gs : List Nat} {cy : Nat → ClassId} (h : fxX E D cy) : fx_Met l yX2_bitOf (.code yX2_bitOf cX2_bitOf 2 (some .int) :: wsL_law) ({ frames := 0, cells := 0, slots := 0, locals := 0 }) E (gs, TX, cy, fun _ => True) ad D classes kx311_c :=
  fx_sound (x := kx311_x) (tb := t_X2_bitOf) (an := kx311_a) (sp := kx311_s) (rk := 0) 11 h.1 (fun _ _ _ _ _ _ => trivial) (fun _ _ _ _ _ _ => trivial) (ht_tys cy) (by decide) rfl ⟨fx_an, (fx_ac fl_X2_37 (fx_an)), fx_an, fx_an, fx_an, fx_an⟩ d_X2_bitOf kx311_k
-- X2_bitOf 11 i ('c', 5) ('c', 12)
def kx312_c : fx_C := ([.inr (.inr 12), .inl (5, 5)], [((0, 1), .inl (12, 12))], [(some (.inl (64, 64)), [.inr (.inr 12), .inl (5, 5)], [])], [])
def kx312_a : List fx_N := []
def kx312_s : List fx_D := []
def kx312_x : fx_X := ([], [(37, 1, 1)], [], [], [], [])
set_option maxRecDepth 100000 in
theorem kx312_k : fx_chk TX 2 kx312_c 0 kx312_x t_X2_bitOf kx312_a kx312_s 11 = true := by decide +kernel
set_option maxRecDepth 100000 in
theorem kx312 {l : Launch} {E : (Nat → Prop) → State → Prop} {ad : List Nat} {D : va_G} {gs : List Nat} {cy : Nat → ClassId} (h : fxX E D cy) : fx_Met l yX2_bitOf (.code yX2_bitOf cX2_bitOf 2 (some .int) :: wsL_law) ({ frames := 0, cells := 0, slots := 0, locals := 0 }) E (gs, TX, cy, fun _ => True) ad D classes kx312_c :=
  fx_sound (x := kx312_x) (tb := t_X2_bitOf) (an := kx312_a) (sp := kx312_s) (rk := 0) 11 h.1 (fun _ _ _ _ _ _ => trivial) (fun _ _ _ _ _ _ => trivial) (ht_tys cy) (by decide) rfl ⟨fx_an, (fx_ac fl_X2_37 (fx_an)), fx_an, fx_an, fx_an, fx_an⟩ d_X2_bitOf kx312_k
-- X2_bitOf 11 i ('c', 6) ('c', 12)
def kx313_c : fx_C := ([.inr (.inr 12), .inl (6, 6)], [((0, 1), .inl (12, 12))], [(some (.inl (32, 32)), [.inr (.inr 12), .inl (6, 6)], [])], [])
def kx313_a : List fx_N := []
def kx313_s : List fx_D := []
def kx313_x : fx_X := ([], [(37, 1, 1)], [], [], [], [])
set_option maxRecDepth 100000 in
theorem kx313_k : fx_chk TX 2 kx313_c 0 kx313_x t_X2_bitOf kx313_a kx313_s 11 = true := by decide +kernel
set_option maxRecDepth 100000 in
theorem kx313 {l : Launch} {E : (Nat → Prop) → State → Prop} {ad : List Nat} {D : va_G} {gs : List Nat} {cy : Nat → ClassId} (h : fxX E D cy) : fx_Met l yX2_bitOf (.code yX2_bitOf cX2_bitOf 2 (some .int) :: wsL_law) ({ frames := 0, cells := 0, slots := 0, locals := 0 }) E (gs, TX, cy, fun _ => True) ad D classes kx313_c :=
  fx_sound (x := kx313_x) (tb := t_X2_bitOf) (an := kx313_a) (sp := kx313_s) (rk := 0) 11 h.1 (fun _ _ _ _ _ _ => trivial) (fun _ _ _ _ _ _ => trivial) (ht_tys cy) (by decide) rfl ⟨fx_an, (fx_ac fl_X2_37 (fx_an)), fx_an, fx_an, fx_an, fx_an⟩ d_X2_bitOf kx313_k
-- X2_bitOf 11 i ('c', 7) ('c', 12)
def kx314_c : fx_C := ([.inr (.inr 12), .inl (7, 7)], [((0, 1), .inl (12, 12))], [(some (.inl (16, 16)), [.inr (.inr 12), .inl (7, 7)], [])], [])
def kx314_a : List fx_N := []
def kx314_s : List fx_D := []
def kx314_x : fx_X := ([], [(37, 1, 1)], [], [], [], [])
set_option maxRecDepth 100000 in
theorem kx314_k : fx_chk TX 2 kx314_c 0 kx314_x t_X2_bitOf kx314_a kx314_s 11 = true := by decide +kernel
set_option maxRecDepth 100000 in
theorem kx314 {l : Launch} {E : (Nat → Prop) → State → Prop} {ad : List Nat} {D : va_G} {gs : List Nat} {cy : Nat → ClassId} (h : fxX E D cy) : fx_Met l yX2_bitOf (.code yX2_bitOf cX2_bitOf 2 (some .int) :: wsL_law) ({ frames := 0, cells := 0, slots := 0, locals := 0 }) E (gs, TX, cy, fun _ => True) ad D classes kx314_c :=
  fx_sound (x := kx314_x) (tb := t_X2_bitOf) (an := kx314_a) (sp := kx314_s) (rk := 0) 11 h.1 (fun _ _ _ _ _ _ => trivial) (fun _ _ _ _ _ _ => trivial) (ht_tys cy) (by decide) rfl ⟨fx_an, (fx_ac fl_X2_37 (fx_an)), fx_an, fx_an, fx_an, fx_an⟩ d_X2_bitOf kx314_k
-- X2_bitOf 11 i ('c', 8) ('c', 12)
def kx315_c : fx_C := ([.inr (.inr 12), .inl (8, 8)], [((0, 1), .inl (12, 12))], [(some (.inl (8, 8)), [.inr (.inr 12), .inl (8, 8)], [])], [])
def kx315_a : List fx_N := []
def kx315_s : List fx_D := []
def kx315_x : fx_X := ([], [(37, 1, 1)], [], [], [], [])
set_option maxRecDepth 100000 in
theorem kx315_k : fx_chk TX 2 kx315_c 0 kx315_x t_X2_bitOf kx315_a kx315_s 11 = true := by decide +kernel
set_option maxRecDepth 100000 in
theorem kx315 {l : Launch} {E : (Nat → Prop) → State → Prop} {ad : List Nat} {D : va_G} {gs : List Nat} {cy : Nat → ClassId} (h : fxX E D cy) : fx_Met l yX2_bitOf (.code yX2_bitOf cX2_bitOf 2 (some .int) :: wsL_law) ({ frames := 0, cells := 0, slots := 0, locals := 0 }) E (gs, TX, cy, fun _ => True) ad D classes kx315_c :=
  fx_sound (x := kx315_x) (tb := t_X2_bitOf) (an := kx315_a) (sp := kx315_s) (rk := 0) 11 h.1 (fun _ _ _ _ _ _ => trivial) (fun _ _ _ _ _ _ => trivial) (ht_tys cy) (by decide) rfl ⟨fx_an, (fx_ac fl_X2_37 (fx_an)), fx_an, fx_an, fx_an, fx_an⟩ d_X2_bitOf kx315_k
-- X2_bitOf 11 i ('c', 9) ('c', 12)
def kx316_c : fx_C := ([.inr (.inr 12), .inl (9, 9)], [((0, 1), .inl (12, 12))], [(some (.inl (4, 4)), [.inr (.inr 12), .inl (9, 9)], [])], [])
def kx316_a : List fx_N := []
def kx316_s : List fx_D := []
def kx316_x : fx_X := ([], [(37, 1, 1)], [], [], [], [])
set_option maxRecDepth 100000 in
theorem kx316_k : fx_chk TX 2 kx316_c 0 kx316_x t_X2_bitOf kx316_a kx316_s 11 = true := by decide +kernel
set_option maxRecDepth 100000 in
theorem kx316 {l : Launch} {E : (Nat → Prop) → State → Prop} {ad : List Nat} {D : va_G} {gs : List Nat} {cy : Nat → ClassId} (h : fxX E D cy) : fx_Met l yX2_bitOf (.code yX2_bitOf cX2_bitOf 2 (some .int) :: wsL_law) ({ frames := 0, cells := 0, slots := 0, locals := 0 }) E (gs, TX, cy, fun _ => True) ad D classes kx316_c :=
  fx_sound (x := kx316_x) (tb := t_X2_bitOf) (an := kx316_a) (sp := kx316_s) (rk := 0) 11 h.1 (fun _ _ _ _ _ _ => trivial) (fun _ _ _ _ _ _ => trivial) (ht_tys cy) (by decide) rfl ⟨fx_an, (fx_ac fl_X2_37 (fx_an)), fx_an, fx_an, fx_an, fx_an⟩ d_X2_bitOf kx316_k
-- X2_bitOf 11 i ('c', 10) ('c', 12)
def kx317_c : fx_C := ([.inr (.inr 12), .inl (10, 10)], [((0, 1), .inl (12, 12))], [(some (.inl (2, 2)), [.inr (.inr 12), .inl (10, 10)], [])], [])
def kx317_a : List fx_N := []
def kx317_s : List fx_D := []
def kx317_x : fx_X := ([], [(37, 1, 1)], [], [], [], [])
set_option maxRecDepth 100000 in
theorem kx317_k : fx_chk TX 2 kx317_c 0 kx317_x t_X2_bitOf kx317_a kx317_s 11 = true := by decide +kernel
set_option maxRecDepth 100000 in
theorem kx317 {l : Launch} {E : (Nat → Prop) → State → Prop} {ad : List Nat} {D : va_G} {gs : List Nat} {cy : Nat → ClassId} (h : fxX E D cy) : fx_Met l yX2_bitOf (.code yX2_bitOf cX2_bitOf 2 (some .int) :: wsL_law) ({ frames := 0, cells := 0, slots := 0, locals := 0 }) E (gs, TX, cy, fun _ => True) ad D classes kx317_c :=
  fx_sound (x := kx317_x) (tb := t_X2_bitOf) (an := kx317_a) (sp := kx317_s) (rk := 0) 11 h.1 (fun _ _ _ _ _ _ => trivial) (fun _ _ _ _ _ _ => trivial) (ht_tys cy) (by decide) rfl ⟨fx_an, (fx_ac fl_X2_37 (fx_an)), fx_an, fx_an, fx_an, fx_an⟩ d_X2_bitOf kx317_k
-- X2_bitOf 11 i ('c', 11) ('c', 12)
def kx318_c : fx_C := ([.inr (.inr 12), .inl (11, 11)], [((0, 1), .inl (12, 12))], [(some (.inl (1, 1)), [.inr (.inr 12), .inl (11, 11)], [])], [])
def kx318_a : List fx_N := []
def kx318_s : List fx_D := []
def kx318_x : fx_X := ([], [(37, 1, 1)], [], [], [], [])
set_option maxRecDepth 100000 in
theorem kx318_k : fx_chk TX 2 kx318_c 0 kx318_x t_X2_bitOf kx318_a kx318_s 11 = true := by decide +kernel
set_option maxRecDepth 100000 in
theorem kx318 {l : Launch} {E : (Nat → Prop) → State → Prop} {ad : List Nat} {D : va_G} {gs : List Nat} {cy : Nat → ClassId} (h : fxX E D cy) : fx_Met l yX2_bitOf (.code yX2_bitOf cX2_bitOf 2 (some .int) :: wsL_law) ({ frames := 0, cells := 0, slots := 0, locals := 0 }) E (gs, TX, cy, fun _ => True) ad D classes kx318_c :=
  fx_sound (x := kx318_x) (tb := t_X2_bitOf) (an := kx318_a) (sp := kx318_s) (rk := 0) 11 h.1 (fun _ _ _ _ _ _ => trivial) (fun _ _ _ _ _ _ => trivial) (ht_tys cy) (by decide) rfl ⟨fx_an, (fx_ac fl_X2_37 (fx_an)), fx_an, fx_an, fx_an, fx_an⟩ d_X2_bitOf kx318_k
