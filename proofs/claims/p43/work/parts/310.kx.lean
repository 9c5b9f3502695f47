-- X2_bestTurn 4 11 i i ('c', 9)
def kx283_c : fx_C := ([.inr (.inr 5), .inr (.inr 12), .inl (0, 4095), .inl (0, 1)], [((1, 1), .inl (9, 9))], [(some (.inl (-2147483648, 2147483647)), [.inr (.inr 5), .inr (.inr 12), .inl (0, 4095), .inl (0, 1)], [])], [])
def kx283_a : List fx_N := [(9, [(6, .inl (0, 0)), (0, .inr (.inr 5)), (1, .inr (.inr 12)), (2, .inl (0, 4095)), (3, .inl (0, 1)), (4, .inl (0, 0)), (5, .inl (0, 0))], [((2, 1), .inl (9, 9))], [(0, 9)], [(0, 1), (1, 2), (2, 3), (3, 4)]), (9, [(6, .inl (1, 1)), (0, .inr (.inr 5)), (1, .inr (.inr 12)), (2, .inl (0, 4095)), (3, .inl (0, 1)), (4, .inl (0, 1)), (5, .inl (-2147483648, 2147483647))], [((2, 1), .inl (9, 9))], [(0, 8)], [(0, 1), (1, 2), (2, 3), (3, 4)]), (9, [(6, .inl (2, 2)), (0, .inr (.inr 5)), (1, .inr (.inr 12)), (2, .inl (0, 4095)), (3, .inl (0, 1)), (4, .inl (0, 1)), (5, .inl (-2147483648, 2147483647))], [((2, 1), .inl (9, 9))], [(0, 7)], [(0, 1), (1, 2), (2, 3), (3, 4)]), (9, [(6, .inl (3, 3)), (0, .inr (.inr 5)), (1, .inr (.inr 12)), (2, .inl (0, 4095)), (3, .inl (0, 1)), (4, .inl (0, 1)), (5, .inl (-2147483648, 2147483647))], [((2, 1), .inl (9, 9))], [(0, 6)], [(0, 1), (1, 2), (2, 3), (3, 4)]), (9, [(6, .inl (4, 4)), (0, .inr (.inr 5)), (1, .inr (.inr 12)), (2, .inl (0, 4095)), (3, .inl (0, 1)), (4, .inl (0, 1)), (5, .inl (-2147483648, 2147483647))], [((2, 1), .inl (9, 9))], [(0, 5)], [(0, 1), (1, 2), (2, 3), (3, 4)]), (9, [(6, .inl (5, 5)), (0, .inr (.inr 5)), (1, .inr (.inr 12)), (2, .inl (0, 4095)), (3, .inl (0, 1)), (4, .inl (0, 1)), (5, .inl (-2147483648, 2147483647))], [((2, 1), .inl (9, 9))], [(0, 4)], [(0, 1), (1, 2), (2, 3), (3, 4)]), (9, [(6, .inl (6, 6)), (0, .inr (.inr 5)), (1, .inr (.inr 12)), (2, .inl (0, 4095)), (3, .inl (0, 1)), (4, .inl (0, 1)), (5, .inl (-2147483648, 2147483647))], [((2, 1), .inl (9, 9))], [(0, 3)], [(0, 1), (1, 2), (2, 3), (3, 4)]), (9, [(6, .inl (7, 7)), (0, .inr (.inr 5)), (1, .inr (.inr 12)), (2, .inl (0, 4095)), (3, .inl (0, 1)), (4, .inl (0, 1)), (5, .inl (-2147483648, 2147483647))], [((2, 1), .inl (9, 9))], [(0, 2)], [(0, 1), (1, 2), (2, 3), (3, 4)]), (9, [(6, .inl (8, 8)), (0, .inr (.inr 5)), (1, .inr (.inr 12)), (2, .inl (0, 4095)), (3, .inl (0, 1)), (4, .inl (0, 1)), (5, .inl (-2147483648, 2147483647))], [((2, 1), .inl (9, 9))], [(0, 1)], [(0, 1), (1, 2), (2, 3), (3, 4)]), (9, [(6, .inl (9, 9)), (0, .inr (.inr 5)), (1, .inr (.inr 12)), (2, .inl (0, 4095)), (3, .inl (0, 1)), (4, .inl (0, 1)), (5, .inl (-2147483648, 2147483647))], [((2, 1), .inl (9, 9))], [(0, 0)], [(0, 1), (1, 2), (2, 3), (3, 4)])]
def kx283_s : List fx_D := []
def kx283_x : fx_X := ([], [(11, 2, 0), (37, 1, 1)], [], [], [], [(22, 43, 1000, kx274_c), (22, 43, 1000, kx275_c), (22, 43, 1000, kx276_c), (22, 43, 1000, kx277_c), (22, 43, 1000, kx278_c), (22, 43, 1000, kx279_c), (22, 43, 1000, kx280_c), (22, 43, 1000, kx281_c), (22, 43, 1000, kx282_c)])
set_option maxRecDepth 100000 in
theorem kx283_k : fx_chk TX 9 kx283_c 0 kx283_x t_X2_bestTurn kx283_a kx283_s 38 = true := by decide +kernel
set_option maxRecDepth 100000 in
theorem kx283 {l : Launch} {E : (Nat → Prop) → State → Prop} {ad : List Nat} {D : va_G} {gs : List Nat} {cy : Nat → ClassId} (h : fxX E D cy) : fx_Met l yX2_bestTurn (.code yX2_bestTurn cX2_bestTurn 9 (some .int) :: wsL_law) ({ frames := 1, cells := 0, slots := 0, locals := 21 }) E (gs, TX, cy, fun _ => True) ad D classes kx283_c :=
  fx_sound (x := kx283_x) (tb := t_X2_bestTurn) (an := kx283_a) (sp := kx283_s) (rk := 0) 38 h.1 (fun _ _ _ _ _ _ => trivial) (fun _ _ _ _ _ _ => trivial) (ht_tys cy) (by decide) rfl ⟨fx_an, (fx_ac fl_X2_11 (fx_ac fl_X2_37 (fx_an))), fx_an, fx_an, fx_an, (fx_ac (ev_S (kx274 h) ⟨by decide, by decide⟩ iS_X2_bitOf g_X2_43) (fx_ac (ev_S (kx275 h) ⟨by decide, by decide⟩ iS_X2_bitOf g_X2_43) (fx_ac (ev_S (kx276 h) ⟨by decide, by decide⟩ iS_X2_bitOf g_X2_43) (fx_ac (ev_S (kx277 h) ⟨by decide, by decide⟩ iS_X2_bitOf g_X2_43) (fx_ac (ev_S (kx278 h) ⟨by decide, by decide⟩ iS_X2_bitOf g_X2_43) (fx_ac (ev_S (kx279 h) ⟨by decide, by decide⟩ iS_X2_bitOf g_X2_43) (fx_ac (ev_S (kx280 h) ⟨by decide, by decide⟩ iS_X2_bitOf g_X2_43) (fx_ac (ev_S (kx281 h) ⟨by decide, by decide⟩ iS_X2_bitOf g_X2_43) (fx_ac (ev_S (kx282 h) ⟨by decide, by decide⟩ iS_X2_bitOf g_X2_43) (fx_an))))))))))⟩ d_X2_bestTurn kx283_k
-- X2_bitOf 11 i ('c', 0) ('c', 10)
def kx284_c : fx_C := ([.inr (.inr 12), .inl (0, 0)], [((0, 1), .inl (10, 10))], [(some (.inl (512, 512)), [.inr (.inr 12), .inl (0, 0)], [])], [])
def kx284_a : List fx_N := []
def kx284_s : List fx_D := []
def kx284_x : fx_X := ([], [(37, 1, 1)], [], [], [], [])
set_option maxRecDepth 100000 in
theorem kx284_k : fx_chk TX 2 kx284_c 0 kx284_x t_X2_bitOf kx284_a kx284_s 11 = true := by decide +kernel
set_option maxRecDepth 100000 in
theorem kx284 {l : Launch} {E : (Nat → Prop) → State → Prop} {ad : List Nat} {D : va_G} {gs : List Nat} {cy : Nat → ClassId} (h : fxX E D cy) : fx_Met l yX2_bitOf (.code yX2_bitOf cX2_bitOf 2 (some .int) :: wsL_law) ({ frames := 0, cells := 0, slots := 0, locals := 0 }) E (gs, TX, cy, fun _ => True) ad D classes kx284_c :=
  fx_sound (x := kx284_x) (tb := t_X2_bitOf) (an := kx284_a) (sp := kx284_s) (rk := 0) 11 h.1 (fun _ _ _ _ _ _ => trivial) (fun _ _ _ _ _ _ => trivial) (ht_tys cy) (by decide) rfl ⟨fx_an, (fx_ac fl_X2_37 (fx_an)), fx_an, fx_an, fx_an, fx_an⟩ d_X2_bitOf kx284_k
-- X2_bitOf 11 i ('c', 1) ('c', 10)
def kx285_c : fx_C := ([.inr (.inr 12), .inl (1, 1)], [((0, 1), .inl (10, 10))], [(some (.inl (256, 256)), [.inr (.inr 12), .inl (1, 1)], [])], [])
def kx285_a : List fx_N := []
def kx285_s : List fx_D := []
def kx285_x : fx_X := ([], [(37, 1, 1)], [], [], [], [])
set_option maxRecDepth 100000 in
theorem kx285_k : fx_chk TX 2 kx285_c 0 kx285_x t_X2_bitOf kx285_a kx285_s 11 = true := by decide +kernel
set_option maxRecDepth 100000 in
theorem kx285 {l : Launch} {E : (Nat → Prop) → State → Prop} {ad : List Nat} {D : va_G} {gs : List Nat} {cy : Nat → ClassId} (h : fxX E D cy) : fx_Met l yX2_bitOf (.code yX2_bitOf cX2_bitOf 2 (some .int) :: wsL_law) ({ frames := 0, cells := 0, slots := 0, locals := 0 }) E (gs, TX, cy, fun _ => True) ad D classes kx285_c :=
  fx_sound (x := kx285_x) (tb := t_X2_bitOf) (an := kx285_a) (sp := kx285_s) (rk := 0) 11 h.1 (fun _ _ _ _ _ _ => trivial) (fun _ _ _ _ _ _ => trivial) (ht_tys cy) (by decide) rfl ⟨fx_an, (fx_ac fl_X2_37 (fx_an)), fx_an, fx_an, fx_an, fx_an⟩ d_X2_bitOf kx285_k
-- X2_bitOf 11 i ('c', 2) ('c', 10)
def kx286_c : fx_C := ([.inr (.inr 12), .inl (2, 2)], [((0, 1), .inl (10, 10))], [(some (.inl (128, 128)), [.inr (.inr 12), .inl (2, 2)], [])], [])
def kx286_a : List fx_N := []
def kx286_s : List fx_D := []
def kx286_x : fx_X := ([], [(37, 1, 1)], [], [], [], [])
set_option maxRecDepth 100000 in
theorem kx286_k : fx_chk TX 2 kx286_c 0 kx286_x t_X2_bitOf kx286_a kx286_s 11 = true := by decide +kernel
set_option maxRecDepth 100000 in
theorem kx286 {l : Launch} {E : (Nat → Prop) → State → Prop} {ad : List Nat} {D : va_G} {gs : List Nat} {cy : Nat → ClassId} (h : fxX E D cy) : fx_Met l yX2_bitOf (.code yX2_bitOf cX2_bitOf 2 (some .int) :: wsL_law) ({ frames := 0, cells := 0, slots := 0, locals := 0 }) E (gs, TX, cy, fun _ => True) ad D classes kx286_c :=
  fx_sound (x := kx286_x) (tb := t_X2_bitOf) (an := kx286_a) (sp := kx286_s) (rk := 0) 11 h.1 (fun _ _ _ _ _ _ => trivial) (fun _ _ _ _ _ _ => trivial) (ht_tys cy) (by decide) rfl ⟨fx_an, (fx_ac fl_X2_37 (fx_an)), fx_an, fx_an, fx_an, fx_an⟩ d_X2_bitOf kx286_k
-- X2_bitOf 11 i ('c', 3) ('c', 10)
def kx287_c : fx_C := ([.inr (.inr 12), .inl (3, 3)], [((0, 1), .inl (10, 10))], [(some (.inl (64, 64)), [.inr (.inr 12), .inl (3, 3)], [])], [])
def kx287_a : List fx_N := []
def kx287_s : List fx_D := []
def kx287_x : fx_X := ([], [(37, 1, 1)], [], [], [], [])
set_option maxRecDepth 100000 in
theorem kx287_k : fx_chk TX 2 kx287_c 0 kx287_x t_X2_bitOf kx287_a kx287_s 11 = true := by decide +kernel
set_option maxRecDepth 100000 in
theorem kx287 {l : Launch} {E : (Nat → Prop) → State → Prop} {ad : List Nat} {D : va_G} {gs : List Nat} {cy : Nat → ClassId} (h : fxX E D cy) : fx_Met l yX2_bitOf (.code yX2_bitOf cX2_bitOf 2 (some .int) :: wsL_law) ({ frames := 0, cells := 0, slots := 0, locals := 0 }) E (gs, TX, cy, fun _ => True) ad D classes kx287_c :=
  fx_sound (x := kx287_x) (tb := t_X2_bitOf) (an := kx287_a) (sp := kx287_s) (rk := 0) 11 h.1 (fun _ _ _ _ _ _ => trivial) (fun _ _ _ _ _ _ => trivial) (ht_tys cy) (by decide) rfl ⟨fx_an, (fx_ac fl_X2_37 (fx_an)), fx_an, fx_an, fx_an, fx_an⟩ d_X2_bitOf kx287_k
-- X2_bitOf 11 i ('c', 4) ('c', 10)
def kx288_c : fx_C := ([.inr (.inr 12), .inl (4, 4)], [((0, 1), .inl (10, 10))], [(some (.inl (32, 32)), [.inr (.inr 12), .inl (4, 4)], [])], [])
def kx288_a : List fx_N := []
def kx288_s : List fx_D := []
def kx288_x : fx_X := ([], [(37, 1, 1)], [], [], [], [])
set_option maxRecDepth 100000 in
theorem kx288_k : fx_chk TX 2 kx288_c 0 kx288_x t_X2_bitOf kx288_a kx288_s 11 = true := by decide +kernel
set_option maxRecDepth 100000 in
theorem kx288 {l : Launch} {E : (Nat → Prop) → State → Prop} {ad : List Nat} {D : va_G} {gs : List Nat} {cy : Nat → ClassId} (h : fxX E D cy) : fx_Met l yX2_bitOf (.code yX2_bitOf cX2_bitOf 2 (some .int) :: wsL_law) ({ frames := 0, cells := 0, slots := 0, locals := 0 }) E (gs, TX, cy, fun _ => True) ad D classes kx288_c :=
  fx_sound (x := kx288_x) (tb := t_X2_bitOf) (an := kx288_a) (sp := kx288_s) (rk := 0) 11 h.1 (fun _ _ _ _ _ _ => trivial) (fun _ _ _ _ _ _ => trivial) (ht_tys cy) (by decide) rfl ⟨fx_an, (fx_ac fl_X2_37 (fx_an)), fx_an, fx_an, fx_an, fx_an⟩ d_X2_bitOf kx288_k
-- X2_bitOf 11 i ('c', 5) ('c', 10)
def kx289_c : fx_C := ([.inr (.inr 12), .inl (5, 5)], [((0, 1), .inl (10, 10))], [(some (.inl (16, 16)), [.inr (.inr 12), .inl (5, 5)], [])], [])
def kx289_a : List fx_N := []
def kx289_s : List fx_D := []
def kx289_x : fx_X := ([], [(37, 1, 1)], [], [], [], [])
set_option maxRecDepth 100000 in
theorem kx289_k : fx_chk TX 2 kx289_c 0 kx289_x t_X2_bitOf kx289_a kx289_s 11 = true := by decide +kernel
set_option maxRecDepth 100000 in
theorem kx289 {l : Launch} {E : (Nat → Prop) → State → Prop} {ad : List Nat} {D : va_G} {gs : List Nat} {cy : Nat → ClassId} (h : fxX E D cy) : fx_Met l yX2_bitOf (.code yX2_bitOf cX2_bitOf 2 (some .int) :: wsL_law) ({ frames := 0, cells := 0, slots := 0, locals := 0 }) E (gs, TX, cy, fun _ => True) ad D classes kx289_c :=
  fx_sound (x := kx289_x) (tb := t_X2_bitOf) (an := kx289_a) (sp := kx289_s) (rk := 0) 11 h.1 (fun _ _ _ _ _ _ => trivial) (fun _ _ _ _ _ _ => trivial) (ht_tys cy) (by decide) rfl ⟨fx_an, (fx_ac fl_X2_37 (fx_an)), fx_an, fx_an, fx_an, fx_an⟩ d_X2_bitOf kx289_k
-- X2_bitOf 11 i ('c', 6) ('c', 10)
def kx290_c : fx_C := ([.inr (.inr 12), .inl (6, 6)], [((0, 1), .inl (10, 10))], [(some (.inl (8, 8)), [.inr (.inr 12), .inl (6, 6)], [])], [])
def kx290_a : List fx_N := []
def kx290_s : List fx_D := []
def kx290_x : fx_X := ([], [(37, 1, 1)], [], [], [], [])
set_option maxRecDepth 100000 in
theorem kx290_k : fx_chk TX 2 kx290_c 0 kx290_x t_X2_bitOf kx290_a kx290_s 11 = true := by decide +kernel
set_option maxRecDepth 100000 in
theorem kx290 {l : Launch} {E : (Nat → Prop) → State → Prop} {ad : List Nat} {D : va_G} {gs : List Nat} {cy : Nat → ClassId} (h : fxX E D cy) : fx_Met l yX2_bitOf (.code yX2_bitOf cX2_bitOf 2 (some .int) :: wsL_law) ({ frames := 0, cells := 0, slots := 0, locals := 0 }) E (gs, TX, cy, fun _ => True) ad D classes kx290_c :=
  fx_sound (x := kx290_x) (tb := t_X2_bitOf) (an := kx290_a) (sp := kx290_s) (rk := 0) 11 h.1 (fun _ _ _ _ _ _ => trivial) (fun _ _ _ _ _ _ => trivial) (ht_tys cy) (by decide) rfl ⟨fx_an, (fx_ac fl_X2_37 (fx_an)), fx_an, fx_an, fx_an, fx_an⟩ d_X2_bitOf kx290_k
-- X2_bitOf 11 i ('c', 7) ('c', 10)
def kx291_c : fx_C := ([.inr (.inr 12), .inl (7, 7)], [((0, 1), .inl (10, 10))], [(some (.inl (4, 4)), [.inr (.inr 12), .inl (7, 7)], [])], [])
def kx291_a : List fx_N := []
def kx291_s : List fx_D := []
def kx291_x : fx_X := ([], [(37, 1, 1)], [], [], [], [])
set_option maxRecDepth 100000 in
theorem kx291_k : fx_chk TX 2 kx291_c 0 kx291_x t_X2_bitOf kx291_a kx291_s 11 = true := by decide +kernel
set_option maxRecDepth 100000 in
theorem kx291 {l : Launch} {E : (Nat → Prop) → State → Prop} {ad : List Nat} {D : va_G} {gs : List Nat} {cy : Nat → ClassId} (h : fxX E D cy) : fx_Met l yX2_bitOf (.code yX2_bitOf cX2_bitOf 2 (some .int) :: wsL_law) ({ frames := 0, cells := 0, slots := 0, locals := 0 }) E (gs, TX, cy, fun _ => True) ad D classes kx291_c :=
  fx_sound (x := kx291_x) (tb := t_X2_bitOf) (an := kx291_a) (sp := kx291_s) (rk := 0) 11 h.1 (fun _ _ _ _ _ _ => trivial) (fun _ _ _ _ _ _ => trivial) (ht_tys cy) (by decide) rfl ⟨fx_an, (fx_ac fl_X2_37 (fx_an)), fx_an, fx_an, fx_an, fx_an⟩ d_X2_bitOf kx291_k
-- X2_bitOf 11 i ('c', 8) ('c', 10)
def kx292_c : fx_C := ([.inr (.inr 12), .inl (8, 8)], [((0, 1), .inl (10, 10))], [(some (.inl (2, 2)), [.inr (.inr 12), .inl (8, 8)], [])], [])
def kx292_a : List fx_N := []
def kx292_s : List fx_D := []
def kx292_x : fx_X := ([], [(37, 1, 1)], [], [], [], [])
set_option maxRecDepth 100000 in
theorem kx292_k : fx_chk TX 2 kx292_c 0 kx292_x t_X2_bitOf kx292_a kx292_s 11 = true := by decide +kernel
set_option maxRecDepth 100000 in
theorem kx292 {l : Launch} {E : (Nat → Prop) → State → Prop} {ad : List Nat} {D : va_G} {gs : List Nat} {cy : Nat → ClassId} (h : fxX E D cy) : fx_Met l yX2_bitOf (.code yX2_bitOf cX2_bitOf 2 (some .int) :: wsL_law) ({ frames := 0, cells := 0, slots := 0, locals := 0 }) E (gs, TX, cy, fun _ => True) ad D classes kx292_c :=
  fx_sound (x := kx292_x) (tb := t_X2_bitOf) (an := kx292_a) (sp := kx292_s) (rk := 0) 11 h.1 (fun _ _ _ _ _ _ => trivial) (fun _ _ _ _ _ _ => trivial) (ht_tys cy) (by decide) rfl ⟨fx_an, (fx_ac fl_X2_37 (fx_an)), fx_an, fx_an, fx_an, fx_an⟩ d_X2_bitOf kx292_k
-- X2_bitOf 11 i ('c', 9) ('c', 10)
def kx293_c : fx_C := ([.inr (.inr 12), .inl (9, 9)], [((0, 1), .inl (10, 10))], [(some (.inl (1, 1)), [.inr (.inr 12), .inl (9, 9)], [])], [])
def kx293_a : List fx_N := []
def kx293_s : List fx_D := []
def kx293_x : fx_X := ([], [(37, 1, 1)], [], [], [], [])
set_option maxRecDepth 100000 in
theorem kx293_k : fx_chk TX 2 kx293_c 0 kx293_x t_X2_bitOf kx293_a kx293_s 11 = true := by decide +kernel
set_option maxRecDepth 100000 in
theorem kx293 {l : Launch} {E : (Nat → Prop) → State → Prop} {ad : List Nat} {D : va_G} {gs : List Nat} {cy : Nat → ClassId} (h : fxX E D cy) : fx_Met l yX2_bitOf (.code yX2_bitOf cX2_bitOf 2 (some .int) :: wsL_law) ({ frames := 0, cells := 0, slots := 0, locals := 0 }) E (gs, TX, cy, fun _ => True) ad D classes kx293_c :=
  fx_sound (x := kx293_x) (tb := t_X2_bitOf) (an := kx293_a) (sp := kx293_s) (rk := 0) 11 h.1 (fun _ _ _ _ _ _ => trivial) (fun _ _ _ _ _ _ => trivial) (ht_tys cy) (by decide) rfl ⟨fx_an, (fx_ac fl_X2_37 (fx_an)), fx_an, fx_an, fx_an, fx_an⟩ d_X2_bitOf kx293_k
-- X2_bestTurn 4 11 i i ('c', 10)
def kx294_c : fx_C := ([.inr (.inr 5), .inr (.inr 12), .inl (0, 4095), .inl (0, 1)], [((1, 1), .inl (10, 10))], [(some (.inl (-2147483648, 2147483647)), [.inr (.inr 5), .inr (.inr 12), .inl (0, 4095), .inl (0, 1)], [])], [])
def kx294_a : List fx_N := [(9, [(6, .inl (0, 0)), (0, .inr (.inr 5)), (1, .inr (.inr 12)), (2, .inl (0, 4095)), (3, .inl (0, 1)), (4, .inl (0, 0)), (5, .inl (0, 0))], [((2, 1), .inl (10, 10))], [(0, 10)], [(0, 1), (1, 2), (2, 3), (3, 4)]), (9, [(6, .inl (1, 1)), (0, .inr (.inr 5)), (1, .inr (.inr 12)), (2, .inl (0, 4095)), (3, .inl (0, 1)), (4, .inl (0, 1)), (5, .inl (-2147483648, 2147483647))], [((2, 1), .inl (10, 10))], [(0, 9)], [(0, 1), (1, 2), (2, 3), (3, 4)]), (9, [(6, .inl (2, 2)), (0, .inr (.inr 5)), (1, .inr (.inr 12)), (2, .inl (0, 4095)), (3, .inl (0, 1)), (4, .inl (0, 1)), (5, .inl (-2147483648, 2147483647))], [((2, 1), .inl (10, 10))], [(0, 8)], [(0, 1), (1, 2), (2, 3), (3, 4)]), (9, [(6, .inl (3, 3)), (0, .inr (.inr 5)), (1, .inr (.inr 12)), (2, .inl (0, 4095)), (3, .inl (0, 1)), (4, .inl (0, 1)), (5, .inl (-2147483648, 2147483647))], [((2, 1), .inl (10, 10))], [(0, 7)], [(0, 1), (1, 2), (2, 3), (3, 4)]), (9, [(6, .inl (4, 4)), (0, .inr (.inr 5)), (1, .inr (.inr 12)), (2, .inl (0, 4095)), (3, .inl (0, 1)), (4, .inl (0, 1)), (5, .inl (-2147483648, 2147483647))], [((2, 1), .inl (10, 10))], [(0, 6)], [(0, 1), (1, 2), (2, 3), (3, 4)]), (9, [(6, .inl (5, 5)), (0, .inr (.inr 5)), (1, .inr (.inr 12)), (2, .inl (0, 4095)), (3, .inl (0, 1)), (4, .inl (0, 1)), (5, .inl (-2147483648, 2147483647))], [((2, 1), .inl (10, 10))], [(0, 5)], [(0, 1), (1, 2), (2, 3), (3, 4)]), (9, [(6, .inl (6, 6)), (0, .inr (.inr 5)), (1, .inr (.inr 12)), (2, .inl (0, 4095)), (3, .inl (0, 1)), (4, .inl (0, 1)), (5, .inl (-2147483648, 2147483647))], [((2, 1), .inl (10, 10))], [(0, 4)], [(0, 1), (1, 2), (2, 3), (3, 4)]), (9, [(6, .inl (7, 7)), (0, .inr (.inr 5)), (1, .inr (.inr 12)), (2, .inl (0, 4095)), (3, .inl (0, 1)), (4, .inl (0, 1)), (5, .inl (-2147483648, 2147483647))], [((2, 1), .inl (10, 10))], [(0, 3)], [(0, 1), (1, 2), (2, 3), (3, 4)]), (9, [(6, .inl (8, 8)), (0, .inr (.inr 5)), (1, .inr (.inr 12)), (2, .inl (0, 4095)), (3, .inl (0, 1)), (4, .inl (0, 1)), (5, .inl (-2147483648, 2147483647))], [((2, 1), .inl (10, 10))], [(0, 2)], [(0, 1), (1, 2), (2, 3), (3, 4)]), (9, [(6, .inl (9, 9)), (0, .inr (.inr 5)), (1, .inr (.inr 12)), (2, .inl (0, 4095)), (3, .inl (0, 1)), (4, .inl (0, 1)), (5, .inl (-2147483648, 2147483647))], [((2, 1), .inl (10, 10))], [(0, 1)], [(0, 1), (1, 2), (2, 3), (3, 4)]), (9, [(6, .inl (10, 10)), (0, .inr (.inr 5)), (1, .inr (.inr 12)), (2, .inl (0, 4095)), (3, .inl (0, 1)), (4, .inl (0, 1)), (5, .inl (-2147483648, 2147483647))], [((2, 1), .inl (10, 10))], [(0, 0)], [(0, 1), (1, 2), (2, 3), (3, 4)])]
def kx294_s : List fx_D := []
def kx294_x : fx_X := ([], [(11, 2, 0), (37, 1, 1)], [], [], [], [(22, 43, 1000, kx284_c), (22, 43, 1000, kx285_c), (22, 43, 1000, kx286_c), (22, 43, 1000, kx287_c), (22, 43, 1000, kx288_c), (22, 43, 1000, kx289_c), (22, 43, 1000, kx290_c), (22, 43, 1000, kx291_c), (22, 43, 1000, kx292_c), (22, 43, 1000, kx293_c)])
set_option maxRecDepth 100000 in
theorem kx294_k : fx_chk TX 9 kx294_c 0 kx294_x t_X2_bestTurn kx294_a kx294_s 38 = true := by decide +kernel
set_option maxRecDepth 100000 in
theorem kx294 {l : Launch} {E : (Nat → Prop) → State → Prop} {ad : List Nat} {D : va_G} {gs : List Nat} {cy : Nat → ClassId} (h : fxX E D cy) : fx_Met l yX2_bestTurn (.code yX2_bestTurn cX2_bestTurn 9 (some .int) :: wsL_law) ({ frames := 1, cells := 0, slots := 0, locals := 21 }) E (gs, TX, cy, fun _ => True) ad D classes kx294_c :=
  fx_sound (x := kx294_x) (tb := t_X2_bestTurn) (an := kx294_a) (sp := kx294_s) (rk := 0) 38 h.1 (fun _ _ _ _ _ _ => trivial) (fun _ _ _ _ _ _ => trivial) (ht_tys cy) (by decide) rfl ⟨fx_an, (fx_ac fl_X2_11 (fx_ac fl_X2_37 (fx_an))), fx_an, fx_an, fx_an, (fx_ac (ev_S (kx284 h) ⟨by decide, by decide⟩ iS_X2_bitOf g_X2_43) (fx_ac (ev_S (kx285 h) ⟨by decide, by decide⟩ iS_X2_bitOf g_X2_43) (fx_ac (ev_S (kx286 h) ⟨by decide, by decide⟩ iS_X2_bitOf g_X2_43) (fx_ac (ev_S (kx287 h) ⟨by decide, by decide⟩ iS_X2_bitOf g_X2_43) (fx_ac (ev_S (kx288 h) ⟨by decide, by decide⟩ iS_X2_bitOf g_X2_43) (fx_ac (ev_S (kx289 h) ⟨by decide, by decide⟩ iS_X2_bitOf g_X2_43) (fx_ac (ev_S (kx290 h) ⟨by decide, by decide⟩ iS_X2_bitOf g_X2_43) (fx_ac (ev_S (kx291 h) ⟨by decide, by decide⟩ iS_X2_bitOf g_X2_43) (fx_ac (ev_S (kx292 h) ⟨by decide, by decide⟩ iS_X2_bitOf g_X2_43) (fx_ac (ev_S (kx293 h) ⟨by decide, by decide⟩ iS_X2_bitOf g_X2_43) (fx_an)))))))))))⟩ d_X2_bestTurn kx294_k
-- X2_bitOf 11 i ('c', 0) ('c', 11)
def kx295_c : fx_C := ([.inr (.inr 12), .inl (0, 0)], [((0, 1), .inl (11, 11))], [(some (.inl (1024, 1024)), [.inr (.inr 12), .inl (0, 0)], [])], [])
def kx295_a : List fx_N := []
def kx295_s : List fx_D := []
def kx295_x : fx_X := ([], [(37, 1, 1)], [], [], [], [])
set_option maxRecDepth 100000 in
theorem kx295_k : fx_chk TX 2 kx295_c 0 kx295_x t_X2_bitOf kx295_a kx295_s 11 = true := by decide +kernel
set_option maxRecDepth 100000 in
theorem kx295 {l : Launch} {E : (Nat → Prop) → State → Prop} {ad : List Nat} {D : va_G} {gs : List Nat} {cy : Nat → ClassId} (h : fxX E D cy) : fx_Met l yX2_bitOf (.code yX2_bitOf cX2_bitOf 2 (some .int) :: wsL_law) ({ frames := 0, cells := 0, slots := 0, locals := 0 }) E (gs, TX, cy, fun _ => True) ad D classes kx295_c :=
  fx_sound (x := kx295_x) (tb := t_X2_bitOf) (an := kx295_a) (sp := kx295_s) (rk := 0) 11 h.1 (fun _ _ _ _ _ _ => trivial) (fun _ _ _ _ _ _ => trivial) (ht_tys cy) (by decide) rfl ⟨fx_an, (fx_ac fl_X2_37 (fx_an)), fx_an, fx_an, fx_an, fx_an⟩ d_X2_bitOf kx295_k
-- X2_bitOf 11 i ('c', 1) ('c', 11)
def kx296_c : fx_C := ([.inr (.inr 12), .inl (1, 1)], [((0, 1), .inl (11, 11))], [(some (.inl (512, 512)), [.inr (.inr 12), .inl (1, 1)], [])], [])
def kx296_a : List fx_N := []
def kx296_s : List fx_D := []
def kx296_x : fx_X := ([], [(37, 1, 1)], [], [], [], [])
set_option maxRecDepth 100000 in
theorem kx296_k : fx_chk TX 2 kx296_c 0 kx296_x t_X2_bitOf kx296_a kx296_s 11 = true := by decide +kernel
set_option maxRecDepth 100000 in
theorem kx296 {l : Launch} {E : (Nat → Prop) → State → Prop} {ad : List Nat} {D : va_G} {gs : List Nat} {cy : Nat → ClassId} (h : fxX E D cy) : fx_Met l yX2_bitOf (.code yX2_bitOf cX2_bitOf 2 (some .int) :: wsL_law) ({ frames := 0, cells := 0, slots := 0, locals := 0 }) E (gs, TX, cy, fun _ => True) ad D classes kx296_c :=
  fx_sound (x := kx296_x) (tb := t_X2_bitOf) (an := kx296_a) (sp := kx296_s) (rk := 0) 11 h.1 (fun _ _ _ _ _ _ => trivial) (fun _ _ _ _ _ _ => trivial) (ht_tys cy) (by decide) rfl ⟨fx_an, (fx_ac fl_X2_37 (fx_an)), fx_an, fx_an, fx_an, fx_an⟩ d_X2_bitOf kx296_k
-- X2_bitOf 11 i ('c', 2) ('c', 11)
def kx297_c : fx_C := ([.inr (.inr 12), .inl (2, 2)], [((0, 1), .inl (11, 11))], [(some (.inl (256, 256)), [.inr (.inr 12), .inl (2, 2)], [])], [])
def kx297_a : List fx_N := []
def kx297_s : List fx_D := []
def kx297_x : fx_X := ([], [(37, 1, 1)], [], [], [], [])
set_option maxRecDepth 100000 in
theorem kx297_k : fx_chk TX 2 kx297_c 0 kx297_x t_X2_bitOf kx297_a kx297_s 11 = true := by decide +kernel
set_option maxRecDepth 100000 in
theorem kx297 {l : Launch} {E : (Nat → Prop) → State → Prop} {ad : List Nat} {D : va_G} {gs : List Nat} {cy : Nat → ClassId} (h : fxX E D cy) : fx_Met l yX2_bitOf (.code yX2_bitOf cX2_bitOf 2 (some .int) :: wsL_law) ({ frames := 0, cells := 0, slots := 0, locals := 0 }) E (gs, TX, cy, fun _ => True) ad D classes kx297_c :=
  fx_sound (x := kx297_x) (tb := t_X2_bitOf) (an := kx297_a) (sp := kx297_s) (rk := 0) 11 h.1 (fun _ _ _ _ _ _ => trivial) (fun _ _ _ _ _ _ => trivial) (ht_tys cy) (by decide) rfl ⟨fx_an, (fx_ac fl_X2_37 (fx_an)), fx_an, fx_an, fx_an, fx_an⟩ d_X2_bitOf kx297_k
-- X2_bitOf 11 i ('c', 3) ('c', 11)
def kx298_c : fx_C := ([.inr (.inr 12), .inl (3, 3)], [((0, 1), .inl (11, 11))], [(some (.inl (128, 128)), [.inr (.inr 12), .inl (3, 3)], [])], [])
def kx298_a : List fx_N := []
def kx298_s : List fx_D := []
def kx298_x : fx_X := ([], [(37, 1, 1)], [], [], [], [])
set_option maxRecDepth 100000 in
theorem kx298_k : fx_chk TX 2 kx298_c 0 kx298_x t_X2_bitOf kx298_a kx298_s 11 = true := by decide +kernel
set_option maxRecDepth 100000 in
theorem kx298 {l : Launch} {E : (Nat → Prop) → State → Prop} {ad : List Nat} {D : va_G} {gs : List Nat} {cy : Nat → ClassId} (h : fxX E D cy) : fx_Met l yX2_bitOf (.code yX2_bitOf cX2_bitOf 2 (some .int) :: wsL_law) ({ frames := 0, cells := 0, slots := 0, locals := 0 }) E (gs, TX, cy, fun _ => True) ad D classes kx298_c :=
  fx_sound (x := kx298_x) (tb := t_X2_bitOf) (an := kx298_a) (sp := kx298_s) (rk := 0) 11 h.1 (fun _ _ _ _ _ _ => trivial) (fun _ _ _ _ _ _ => trivial) (ht_tys cy) (by decide) rfl ⟨fx_an, (fx_ac fl_X2_37 (fx_an)), fx_an, fx_an, fx_an, fx_an⟩ d_X2_bitOf kx298_k
-- X2_bitOf 11 i ('c', 4) ('c', 11)
def kx299_c : fx_C := ([.inr (.inr 12), .inl (4, 4)], [((0, 1), .inl (11, 11))], [(some (.inl (64, 64)), [.inr (.inr 12), .inl (4, 4)], [])], [])
def kx299_a : List fx_N := []
def kx299_s : List fx_D := []
def kx299_x : fx_X := ([], [(37, 1, 1)], [], [], [], [])
set_option maxRecDepth 100000 in
theorem kx299_k : fx_chk TX 2 kx299_c 0 kx299_x t_X2_bitOf kx299_a kx299_s 11 = true := by decide +kernel
set_option maxRecDepth 100000 in
theorem kx299 {l : Launch} {E : (Nat → Prop) → State → Prop} {ad : List Nat} {D : va_G} {gs : List Nat} {cy : Nat → ClassId} (h : fxX E D cy) : fx_Met l yX2_bitOf (.code yX2_bitOf cX2_bitOf 2 (some .int) :: wsL_law) ({ frames := 0, cells := 0, slots := 0, locals := 0 }) E (gs, TX, cy, fun _ => True) ad D classes kx299_c :=
  fx_sound (x := kx299_x) (tb := t_X2_bitOf) (an := kx299_a) (sp := kx299_s) (rk := 0) 11 h.1 (fun _ _ _ _ _ _ => trivial) (fun _ _ _ _ _ _ => trivial) (ht_tys cy) (by decide) rfl ⟨fx_an, (fx_ac fl_X2_37 (fx_an)), fx_an, fx_an, fx_an, fx_an⟩ d_X2_bitOf kx299_k
-- X2_bitOf 11 i ('c', 5) ('c', 11)
def kx300_c : fx_C := ([.inr (.inr 12), .inl (5, 5)], [((0, 1), .inl (11, 11))], [(some (.inl (32, 32)), [.inr (.inr 12), .inl (5, 5)], [])], [])
def kx300_a : List fx_N := []
def kx300_s : List fx_D := []
def kx300_x : fx_X := ([], [(37, 1, 1)], [], [], [], [])
set_option maxRecDepth 100000 in
theorem kx300_k : fx_chk TX 2 kx300_c 0 kx300_x t_X2_bitOf kx300_a kx300_s 11 = true := by decide +kernel
set_option maxRecDepth 100000 in
theorem kx300 {l : Launch} {E : (Nat → Prop) → State → Prop} {ad : List Nat} {D : va_G} {gs : List Nat} {cy : Nat → ClassId} (h : fxX E D cy) : fx_Met l yX2_bitOf (.code yX2_bitOf cX2_bitOf 2 (some .int) :: wsL_law) ({ frames := 0, cells := 0, slots := 0, locals := 0 }) E (gs, TX, cy, fun _ => True) ad D classes kx300_c :=
  fx_sound (x := kx300_x) (tb := t_X2_bitOf) (an := kx300_a) (sp := kx300_s) (rk := 0) 11 h.1 (fun _ _ _ _ _ _ => trivial) (fun _ _ _ _ _ _ => trivial) (ht_tys cy) (by decide) rfl ⟨fx_an, (fx_ac fl_X2_37 (fx_an)), fx_an, fx_an, fx_an, fx_an⟩ d_X2_bitOf kx300_k
-- X2_bitOf 11 i ('c', 6) ('c', 11)
def kx301_c : fx_C := ([.inr (.inr 12), .inl (6, 6)], [((0, 1), .inl (11, 11))], [(some (.inl (16, 16)), [.inr (.inr 12), .inl (6, 6)], [])], [])
def kx301_a : List fx_N := []
def kx301_s : List fx_D := []
def kx301_x : fx_X := ([], [(37, 1, 1)], [], [], [], [])
set_option maxRecDepth 100000 in
theorem kx301_k : fx_chk TX 2 kx301_c 0 kx301_x t_X2_bitOf kx301_a kx301_s 11 = true := by decide +kernel
set_option maxRecDepth 100000 in
theorem kx301 {l : Launch} {E : (Nat → Prop) → State → Prop} {ad : List Nat} {D : va_G} {gs : List Nat} {cy : Nat → ClassId} (h : fxX E D cy) : fx_Met l yX2_bitOf (.code yX2_bitOf cX2_bitOf 2 (some .int) :: wsL_law) ({ frames := 0, cells := 0, slots := 0, locals := 0 }) E (gs, TX, cy, fun _ => True) ad D classes kx301_c :=
  fx_sound (x := kx301_x) (tb := t_X2_bitOf) (an := kx301_a) (sp := kx301_s) (rk := 0) 11 h.1 (fun _ _ _ _ _ _ => trivial) (fun _ _ _ _ _ _ => trivial) (ht_tys cy) (by decide) rfl ⟨fx_an, (fx_ac fl_X2_37 (fx_an)), fx_an, fx_an, fx_an, fx_an⟩ d_X2_bitOf kx301_k
-- X2_bitOf 11 i ('c', 7) ('c', 11)
def kx302_c : fx_C := ([.inr (.inr 12), .inl (7, 7)], [((0, 1), .inl (11, 11))], [(some (.inl (8, 8)), [.inr (.inr 12), .inl (7, 7)], [])], [])
def kx302_a : List fx_N := []
def kx302_s : List fx_D := []
def kx302_x : fx_X := ([], [(37, 1, 1)], [], [], [], [])
set_option maxRecDepth 100000 in
theorem kx302_k : fx_chk TX 2 kx302_c 0 kx302_x t_X2_bitOf kx302_a kx302_s 11 = true := by decide +kernel
set_option maxRecDepth 100000 in
theorem kx302 {l : Launch} {E : (Nat → Prop) → State → Prop} {ad : List Nat} {D : va_G} {gs : List Nat} {cy : Nat → ClassId} (h : fxX E D cy) : fx_Met l yX2_bitOf (.code yX2_bitOf cX2_bitOf 2 (some .int) :: wsL_law) ({ frames := 0, cells := 0, slots := 0, locals := 0 }) E (gs, TX, cy, fun _ => True) ad D classes kx302_c :=
  fx_sound (x := kx302_x) (tb := t_X2_bitOf) (an := kx302_a) (sp := kx302_s) (rk := 0) 11 h.1 (fun _ _ _ _ _ _ => trivial) (fun _ _ _ _ _ _ => trivial) (ht_tys cy) (by decide) rfl ⟨fx_an, (fx_ac fl_X2_37 (fx_an)), fx_an, fx_an, fx_an, fx_an⟩ d_X2_bitOf kx302_k
-- X2_bitOf 11 i ('c', 8) ('c', 11)
def kx303_c : fx_C := ([.inr (.inr 12), .inl (8, 8)], [((0, 1), .inl (11, 11))], [(some (.inl (4, 4)), [.inr (.inr 12), .inl (8, 8)], [])], [])
def kx303_a : List fx_N := []
def kx303_s : List fx_D := []
def kx303_x : fx_X := ([], [(37, 1, 1)], [], [], [], [])
set_option maxRecDepth 100000 in
theorem kx303_k : fx_chk TX 2 kx303_c 0 kx303_x t_X2_bitOf kx303_a kx303_s 11 = true := by decide +kernel
set_option maxRecDepth 100000 in
theorem kx303 {l : Launch} {E : (Nat → Prop) → State → Prop} {ad : List Nat} {D : va_G} {gs : List Nat} {cy : Nat → ClassId} (h : fxX E D cy) : fx_Met l yX2_bitOf (.code yX2_bitOf cX2_bitOf 2 (some .int) :: wsL_law) ({ frames := 0, cells := 0, slots := 0, locals := 0 }) E (gs, TX, cy, fun _ => True) ad D classes kx303_c :=
  fx_sound (x := kx303_x) (tb := t_X2_bitOf) (an := kx303_a) (sp := kx303_s) (rk := 0) 11 h.1 (fun _ _ _ _ _ _ => trivial) (fun _ _ _ _ _ _ => trivial) (ht_tys cy) (by decide) rfl ⟨fx_an, (fx_ac fl_X2_37 (fx_an)), fx_an, fx_an, fx_an, fx_an⟩ d_X2_bitOf kx303_k
-- X2_bitOf 11 i ('c', 9) ('c', 11)
def kx304_c : fx_C := ([.inr (.inr 12), .inl (9, 9)], [((0, 1), .inl (11, 11))], [(some (.inl (2, 2)), [.inr (.inr 12), .inl (9, 9)], [])], [])
def kx304_a : List fx_N := []
def kx304_s : List fx_D := []
def kx304_x : fx_X := ([], [(37, 1, 1)], [], [], [], [])
set_option maxRecDepth 100000 in
theorem kx304_k : fx_chk TX 2 kx304_c 0 kx304_x t_X2_bitOf kx304_a kx304_s 11 = true := by decide +kernel
set_option maxRecDepth 100000 in
theorem kx304 {l : Launch} {E : (Nat → Prop) → State → Prop} {ad : List Nat} {D : va_G} {gs : List Nat} {cy : Nat → ClassId} (h : fxX E D cy) : fx_Met l yX2_bitOf (.code yX2_bitOf cX2_bitOf 2 (some .int) :: wsL_law) ({ frames := 0, cells := 0, slots := 0, locals := 0 }) E (gs, TX, cy, fun _ => True) ad D classes kx304_c :=
  fx_sound (x := kx304_x) (tb := t_X2_bitOf) (an := kx304_a) (sp := kx304_s) (rk := 0) 11 h.1 (fun _ _ _ _ _ _ => trivial) (fun _ _ _ _ _ _ => trivial) (ht_tys cy) (by decide) rfl ⟨fx_an, (fx_ac fl_X2_37 (fx_an)), fx_an, fx_an, fx_an, fx_an⟩ d_X2_bitOf kx304_k
-- X2_bitOf 11 i ('c', 10) ('c', 11)
def kx305_c : fx_C := ([.inr (.inr 12), .inl (10, 10)], [((0, 1), .inl (11, 11))], [(some (.inl (1, 1)), [.inr (.inr 12), .inl (10, 10)], [])], [])
def kx305_a : List fx_N := []
def kx305_s : List fx_D := []
def kx305_x : fx_X := ([], [(37, 1, 1)], [], [], [], [])
set_option maxRecDepth 100000 in
theorem kx305_k : fx_chk TX 2 kx305_c 0 kx305_x t_X2_bitOf kx305_a kx305_s 11 = true := by decide +kernel
set_option maxRecDepth 100000 in
theorem kx305 {l : Launch} {E : (Nat → Prop) → State → Prop} {ad : List Nat} {D : va_G} {gs : List Nat} {cy : Nat → ClassId} (h : fxX E D cy) : fx_Met l yX2_bitOf (.code yX2_bitOf cX2_bitOf 2 (some .int) :: wsL_law) ({ frames := 0, cells := 0, slots := 0, locals := 0 }) E (gs, TX, cy, fun _ => True) ad D classes kx305_c :=
  fx_sound (x := kx305_x) (tb := t_X2_bitOf) (an := kx305_a) (sp := kx305_s) (rk := 0) 11 h.1 (fun _ _ _ _ _ _ => trivial) (fun _ _ _ _ _ _ => trivial) (ht_tys cy) (by decide) rfl ⟨fx_an, (fx_ac fl_X2_37 (fx_an)), fx_an, fx_an, fx_an, fx_an⟩ d_X2_bitOf kx305_k
