-- X12_mended 0 i i
def km110_c : fx_C := ([.inr (.inr 1), .inl (-2147483648, 2147483647), .inl (-2147483648, 2147483647)], [], [(some (.inl (-1, -1)), [.inr (.inr 1), .inl (-2147483648, 2147483647), .inl (-2147483648, 2147483647)], [((0, 55), .inl (0, 0))]), (some (.inl (-2147483648, 2147483647)), [.inr (.inr 1), .inl (0, 4), .inl (0, 99)], [((0, 45), .inl (0, 8))])], [(12, 45), (12, 46), (12, 55), (1000, 27), (1000, 28), (1000, 34)])
def km110_a : List fx_N := []
def km110_s : List fx_D := []
def km110_x : fx_X := ([], [], [(375, 12, 55, 0)], [], [], [(7, 363, 12, km7_c), (17, 359, 1000, km94_c), (27, 403, 12, km23_c), (33, 513, 12, km109_c)])
set_option maxRecDepth 100000 in
theorem km110_k : fx_chk TM 3 km110_c 0 km110_x t_X12_mended km110_a km110_s 22 = true := by decide +kernel
set_option maxRecDepth 100000 in
theorem km110 {l : Launch} {E : (Nat → Prop) → State → Prop} {ad : List Nat} {D : va_G} {cy : Nat → ClassId} (h : fx_env E D classes (tys cy) nestW) : fx_Met l yX12_mended (.code yX12_mended cX12_mended 3 (some .int) :: wsL_law) ({ frames := 2, cells := 0, slots := 0, locals := 50 }) E (gsM, TM, cy, fun _ => True) ad D classes km110_c :=
  fx_sound (x := km110_x) (tb := t_X12_mended) (an := km110_a) (sp := km110_s) (rk := 0) 22 h (fun _ _ _ _ _ _ => trivial) (fun _ _ _ _ _ _ => trivial) (ht_tys cy) (by decide) rfl ⟨fx_an, fx_an, (fx_ac pl_X12_375 (fx_an)), fx_an, fx_an, (fx_ac (ev_V (km7 h) (by decide) rfl ⟨by decide, by decide⟩ iV_X12_isSlip g_X12_363) (fx_ac (ev_S (km94 h) ⟨by decide, by decide⟩ iS_X12_isIn g_X12_359) (fx_ac (ev_V (km23 h) (by decide) rfl ⟨by decide, by decide⟩ iV_X12_layOne g_X12_403) (fx_ac (ev_V (km109 h) (by decide) rfl ⟨by decide, by decide⟩ iV_X12_countMended g_X12_513) (fx_an)))))⟩ d_X12_mended km110_k
-- X12_has i i ('c', 1) ('c', 0)
def km111_c : fx_C := ([.inl (1, 1), .inl (0, 0)], [], [(some (.inl (1, 1)), [.inl (1, 1), .inl (0, 0)], [])], [])
def km111_a : List fx_N := []
def km111_s : List fx_D := []
def km111_x : fx_X := ([], [], [], [], [], [])
set_option maxRecDepth 100000 in
theorem km111_k : fx_chk TM 2 km111_c 3 km111_x t_X12_has km111_a km111_s 12 = true := by decide +kernel
set_option maxRecDepth 100000 in
theorem km111 {l : Launch} {E : (Nat → Prop) → State → Prop} {ad : List Nat} {D : va_G} {cy : Nat → ClassId} (h : fx_env E D classes (tys cy) nestW) : fx_Met l yX12_has (.code yX12_has cX12_has 2 (some .boolean) :: wsL_law) ({ frames := 0, cells := 0, slots := 0, locals := 0 }) E (gsM, TM, cy, fun _ => True) ad D classes km111_c :=
  fx_sound (x := km111_x) (tb := t_X12_has) (an := km111_a) (sp := km111_s) (rk := 3) 12 h (fun _ _ _ _ _ _ => trivial) (fun _ _ _ _ _ _ => trivial) (ht_tys cy) (by decide) rfl ⟨fx_an, fx_an, fx_an, fx_an, fx_an, fx_an⟩ d_X12_has km111_k
-- X12_has i i ('c', 1) ('c', 1)
def km112_c : fx_C := ([.inl (1, 1), .inl (1, 1)], [], [(some (.inl (0, 0)), [.inl (1, 1), .inl (1, 1)], [])], [])
def km112_a : List fx_N := []
def km112_s : List fx_D := []
def km112_x : fx_X := ([], [], [], [], [], [])
set_option maxRecDepth 100000 in
theorem km112_k : fx_chk TM 2 km112_c 3 km112_x t_X12_has km112_a km112_s 11 = true := by decide +kernel
set_option maxRecDepth 100000 in
theorem km112 {l : Launch} {E : (Nat → Prop) → State → Prop} {ad : List Nat} {D : va_G} {cy : Nat → ClassId} (h : fx_env E D classes (tys cy) nestW) : fx_Met l yX12_has (.code yX12_has cX12_has 2 (some .boolean) :: wsL_law) ({ frames := 0, cells := 0, slots := 0, locals := 0 }) E (gsM, TM, cy, fun _ => True) ad D classes km112_c :=
  fx_sound (x := km112_x) (tb := t_X12_has) (an := km112_a) (sp := km112_s) (rk := 3) 11 h (fun _ _ _ _ _ _ => trivial) (fun _ _ _ _ _ _ => trivial) (ht_tys cy) (by decide) rfl ⟨fx_an, fx_an, fx_an, fx_an, fx_an, fx_an⟩ d_X12_has km112_k
-- X12_has i i ('c', 1) ('c', 2)
def km113_c : fx_C := ([.inl (1, 1), .inl (2, 2)], [], [(some (.inl (0, 0)), [.inl (1, 1), .inl (2, 2)], [])], [])
def km113_a : List fx_N := []
def km113_s : List fx_D := []
def km113_x : fx_X := ([], [], [], [], [], [])
set_option maxRecDepth 100000 in
theorem km113_k : fx_chk TM 2 km113_c 3 km113_x t_X12_has km113_a km113_s 11 = true := by decide +kernel
set_option maxRecDepth 100000 in
theorem km113 {l : Launch} {E : (Nat → Prop) → State → Prop} {ad : List Nat} {D : va_G} {cy : Nat → ClassId} (h : fx_env E D classes (tys cy) nestW) : fx_Met l yX12_has (.code yX12_has cX12_has 2 (some .boolean) :: wsL_law) ({ frames := 0, cells := 0, slots := 0, locals := 0 }) E (gsM, TM, cy, fun _ => True) ad D classes km113_c :=
  fx_sound (x := km113_x) (tb := t_X12_has) (an := km113_a) (sp := km113_s) (rk := 3) 11 h (fun _ _ _ _ _ _ => trivial) (fun _ _ _ _ _ _ => trivial) (ht_tys cy) (by decide) rfl ⟨fx_an, fx_an, fx_an, fx_an, fx_an, fx_an⟩ d_X12_has km113_k
-- X12_has i i ('c', 1) ('c', 3)
def km114_c : fx_C := ([.inl (1, 1), .inl (3, 3)], [], [(some (.inl (0, 0)), [.inl (1, 1), .inl (3, 3)], [])], [])
def km114_a : List fx_N := []
def km114_s : List fx_D := []
def km114_x : fx_X := ([], [], [], [], [], [])
set_option maxRecDepth 100000 in
theorem km114_k : fx_chk TM 2 km114_c 3 km114_x t_X12_has km114_a km114_s 11 = true := by decide +kernel
set_option maxRecDepth 100000 in
theorem km114 {l : Launch} {E : (Nat → Prop) → State → Prop} {ad : List Nat} {D : va_G} {cy : Nat → ClassId} (h : fx_env E D classes (tys cy) nestW) : fx_Met l yX12_has (.code yX12_has cX12_has 2 (some .boolean) :: wsL_law) ({ frames := 0, cells := 0, slots := 0, locals := 0 }) E (gsM, TM, cy, fun _ => True) ad D classes km114_c :=
  fx_sound (x := km114_x) (tb := t_X12_has) (an := km114_a) (sp := km114_s) (rk := 3) 11 h (fun _ _ _ _ _ _ => trivial) (fun _ _ _ _ _ _ => trivial) (ht_tys cy) (by decide) rfl ⟨fx_an, fx_an, fx_an, fx_an, fx_an, fx_an⟩ d_X12_has km114_k
-- X12_has i i ('c', 1) ('c', 4)
def km115_c : fx_C := ([.inl (1, 1), .inl (4, 4)], [], [(some (.inl (0, 0)), [.inl (1, 1), .inl (4, 4)], [])], [])
def km115_a : List fx_N := []
def km115_s : List fx_D := []
def km115_x : fx_X := ([], [], [], [], [], [])
set_option maxRecDepth 100000 in
theorem km115_k : fx_chk TM 2 km115_c 3 km115_x t_X12_has km115_a km115_s 11 = true := by decide +kernel
set_option maxRecDepth 100000 in
theorem km115 {l : Launch} {E : (Nat → Prop) → State → Prop} {ad : List Nat} {D : va_G} {cy : Nat → ClassId} (h : fx_env E D classes (tys cy) nestW) : fx_Met l yX12_has (.code yX12_has cX12_has 2 (some .boolean) :: wsL_law) ({ frames := 0, cells := 0, slots := 0, locals := 0 }) E (gsM, TM, cy, fun _ => True) ad D classes km115_c :=
  fx_sound (x := km115_x) (tb := t_X12_has) (an := km115_a) (sp := km115_s) (rk := 3) 11 h (fun _ _ _ _ _ _ => trivial) (fun _ _ _ _ _ _ => trivial) (ht_tys cy) (by decide) rfl ⟨fx_an, fx_an, fx_an, fx_an, fx_an, fx_an⟩ d_X12_has km115_k
-- X12_has i i ('c', 1) ('c', 5)
def km116_c : fx_C := ([.inl (1, 1), .inl (5, 5)], [], [(some (.inl (0, 0)), [.inl (1, 1), .inl (5, 5)], [])], [])
def km116_a : List fx_N := []
def km116_s : List fx_D := []
def km116_x : fx_X := ([], [], [], [], [], [])
set_option maxRecDepth 100000 in
theorem km116_k : fx_chk TM 2 km116_c 3 km116_x t_X12_has km116_a km116_s 11 = true := by decide +kernel
set_option maxRecDepth 100000 in
theorem km116 {l : Launch} {E : (Nat → Prop) → State → Prop} {ad : List Nat} {D : va_G} {cy : Nat → ClassId} (h : fx_env E D classes (tys cy) nestW) : fx_Met l yX12_has (.code yX12_has cX12_has 2 (some .boolean) :: wsL_law) ({ frames := 0, cells := 0, slots := 0, locals := 0 }) E (gsM, TM, cy, fun _ => True) ad D classes km116_c :=
  fx_sound (x := km116_x) (tb := t_X12_has) (an := km116_a) (sp := km116_s) (rk := 3) 11 h (fun _ _ _ _ _ _ => trivial) (fun _ _ _ _ _ _ => trivial) (ht_tys cy) (by decide) rfl ⟨fx_an, fx_an, fx_an, fx_an, fx_an, fx_an⟩ d_X12_has km116_k
-- X12_has i i ('c', 1) ('c', 6)
def km117_c : fx_C := ([.inl (1, 1), .inl (6, 6)], [], [(some (.inl (0, 0)), [.inl (1, 1), .inl (6, 6)], [])], [])
def km117_a : List fx_N := []
def km117_s : List fx_D := []
def km117_x : fx_X := ([], [], [], [], [], [])
set_option maxRecDepth 100000 in
theorem km117_k : fx_chk TM 2 km117_c 3 km117_x t_X12_has km117_a km117_s 11 = true := by decide +kernel
set_option maxRecDepth 100000 in
theorem km117 {l : Launch} {E : (Nat → Prop) → State → Prop} {ad : List Nat} {D : va_G} {cy : Nat → ClassId} (h : fx_env E D classes (tys cy) nestW) : fx_Met l yX12_has (.code yX12_has cX12_has 2 (some .boolean) :: wsL_law) ({ frames := 0, cells := 0, slots := 0, locals := 0 }) E (gsM, TM, cy, fun _ => True) ad D classes km117_c :=
  fx_sound (x := km117_x) (tb := t_X12_has) (an := km117_a) (sp := km117_s) (rk := 3) 11 h (fun _ _ _ _ _ _ => trivial) (fun _ _ _ _ _ _ => trivial) (ht_tys cy) (by decide) rfl ⟨fx_an, fx_an, fx_an, fx_an, fx_an, fx_an⟩ d_X12_has km117_k
-- X12_has i i ('c', 1) ('c', 7)
def km118_c : fx_C := ([.inl (1, 1), .inl (7, 7)], [], [(some (.inl (0, 0)), [.inl (1, 1), .inl (7, 7)], [])], [])
def km118_a : List fx_N := []
def km118_s : List fx_D := []
def km118_x : fx_X := ([], [], [], [], [], [])
set_option maxRecDepth 100000 in
theorem km118_k : fx_chk TM 2 km118_c 3 km118_x t_X12_has km118_a km118_s 11 = true := by decide +kernel
set_option maxRecDepth 100000 in
theorem km118 {l : Launch} {E : (Nat → Prop) → State → Prop} {ad : List Nat} {D : va_G} {cy : Nat → ClassId} (h : fx_env E D classes (tys cy) nestW) : fx_Met l yX12_has (.code yX12_has cX12_has 2 (some .boolean) :: wsL_law) ({ frames := 0, cells := 0, slots := 0, locals := 0 }) E (gsM, TM, cy, fun _ => True) ad D classes km118_c :=
  fx_sound (x := km118_x) (tb := t_X12_has) (an := km118_a) (sp := km118_s) (rk := 3) 11 h (fun _ _ _ _ _ _ => trivial) (fun _ _ _ _ _ _ => trivial) (ht_tys cy) (by decide) rfl ⟨fx_an, fx_an, fx_an, fx_an, fx_an, fx_an⟩ d_X12_has km118_k
-- X12_has i i ('c', 1) ('c', 8)
def km119_c : fx_C := ([.inl (1, 1), .inl (8, 8)], [], [(some (.inl (0, 0)), [.inl (1, 1), .inl (8, 8)], [])], [])
def km119_a : List fx_N := []
def km119_s : List fx_D := []
def km119_x : fx_X := ([], [], [], [], [], [])
set_option maxRecDepth 100000 in
theorem km119_k : fx_chk TM 2 km119_c 3 km119_x t_X12_has km119_a km119_s 11 = true := by decide +kernel
set_option maxRecDepth 100000 in
theorem km119 {l : Launch} {E : (Nat → Prop) → State → Prop} {ad : List Nat} {D : va_G} {cy : Nat → ClassId} (h : fx_env E D classes (tys cy) nestW) : fx_Met l yX12_has (.code yX12_has cX12_has 2 (some .boolean) :: wsL_law) ({ frames := 0, cells := 0, slots := 0, locals := 0 }) E (gsM, TM, cy, fun _ => True) ad D classes km119_c :=
  fx_sound (x := km119_x) (tb := t_X12_has) (an := km119_a) (sp := km119_s) (rk := 3) 11 h (fun _ _ _ _ _ _ => trivial) (fun _ _ _ _ _ _ => trivial) (ht_tys cy) (by decide) rfl ⟨fx_an, fx_an, fx_an, fx_an, fx_an, fx_an⟩ d_X12_has km119_k
-- X12_has i i ('c', 1) ('c', 9)
def km120_c : fx_C := ([.inl (1, 1), .inl (9, 9)], [], [(some (.inl (0, 0)), [.inl (1, 1), .inl (9, 9)], [])], [])
def km120_a : List fx_N := []
def km120_s : List fx_D := []
def km120_x : fx_X := ([], [], [], [], [], [])
set_option maxRecDepth 100000 in
theorem km120_k : fx_chk TM 2 km120_c 3 km120_x t_X12_has km120_a km120_s 11 = true := by decide +kernel
set_option maxRecDepth 100000 in
theorem km120 {l : Launch} {E : (Nat → Prop) → State → Prop} {ad : List Nat} {D : va_G} {cy : Nat → ClassId} (h : fx_env E D classes (tys cy) nestW) : fx_Met l yX12_has (.code yX12_has cX12_has 2 (some .boolean) :: wsL_law) ({ frames := 0, cells := 0, slots := 0, locals := 0 }) E (gsM, TM, cy, fun _ => True) ad D classes km120_c :=
  fx_sound (x := km120_x) (tb := t_X12_has) (an := km120_a) (sp := km120_s) (rk := 3) 11 h (fun _ _ _ _ _ _ => trivial) (fun _ _ _ _ _ _ => trivial) (ht_tys cy) (by decide) rfl ⟨fx_an, fx_an, fx_an, fx_an, fx_an, fx_an⟩ d_X12_has km120_k
-- X12_has i i ('c', 1) ('c', 10)
def km121_c : fx_C := ([.inl (1, 1), .inl (10, 10)], [], [(some (.inl (0, 0)), [.inl (1, 1), .inl (10, 10)], [])], [])
def km121_a : List fx_N := []
def km121_s : List fx_D := []
def km121_x : fx_X := ([], [], [], [], [], [])
set_option maxRecDepth 100000 in
theorem km121_k : fx_chk TM 2 km121_c 3 km121_x t_X12_has km121_a km121_s 11 = true := by decide +kernel
set_option maxRecDepth 100000 in
theorem km121 {l : Launch} {E : (Nat → Prop) → State → Prop} {ad : List Nat} {D : va_G} {cy : Nat → ClassId} (h : fx_env E D classes (tys cy) nestW) : fx_Met l yX12_has (.code yX12_has cX12_has 2 (some .boolean) :: wsL_law) ({ frames := 0, cells := 0, slots := 0, locals := 0 }) E (gsM, TM, cy, fun _ => True) ad D classes km121_c :=
  fx_sound (x := km121_x) (tb := t_X12_has) (an := km121_a) (sp := km121_s) (rk := 3) 11 h (fun _ _ _ _ _ _ => trivial) (fun _ _ _ _ _ _ => trivial) (ht_tys cy) (by decide) rfl ⟨fx_an, fx_an, fx_an, fx_an, fx_an, fx_an⟩ d_X12_has km121_k
-- X12_has i i ('c', 1) ('c', 11)
def km122_c : fx_C := ([.inl (1, 1), .inl (11, 11)], [], [(some (.inl (0, 0)), [.inl (1, 1), .inl (11, 11)], [])], [])
def km122_a : List fx_N := []
def km122_s : List fx_D := []
def km122_x : fx_X := ([], [], [], [], [], [])
set_option maxRecDepth 100000 in
theorem km122_k : fx_chk TM 2 km122_c 3 km122_x t_X12_has km122_a km122_s 11 = true := by decide +kernel
set_option maxRecDepth 100000 in
theorem km122 {l : Launch} {E : (Nat → Prop) → State → Prop} {ad : List Nat} {D : va_G} {cy : Nat → ClassId} (h : fx_env E D classes (tys cy) nestW) : fx_Met l yX12_has (.code yX12_has cX12_has 2 (some .boolean) :: wsL_law) ({ frames := 0, cells := 0, slots := 0, locals := 0 }) E (gsM, TM, cy, fun _ => True) ad D classes km122_c :=
  fx_sound (x := km122_x) (tb := t_X12_has) (an := km122_a) (sp := km122_s) (rk := 3) 11 h (fun _ _ _ _ _ _ => trivial) (fun _ _ _ _ _ _ => trivial) (ht_tys cy) (by decide) rfl ⟨fx_an, fx_an, fx_an, fx_an, fx_an, fx_an⟩ d_X12_has km122_k
-- X12_layWithout 0 i ('c', 1)
def km123_c : fx_C := ([.inr (.inr 1), .inl (1, 1)], [], [(none, [.inr (.inr 1), .inl (1, 1)], [((0, 45), .inl (0, 11))])], [(12, 45), (1000, 27)])
def km123_a : List fx_N := [(7, [(2, .inl (0, 0)), (0, .inr (.inr 1)), (1, .inl (1, 1))], [((1, 45), .inl (0, 0))], [(0, 12)], [(0, 1), (1, 2)]), (7, [(2, .inl (1, 1)), (0, .inr (.inr 1)), (1, .inl (1, 1))], [((1, 45), .inl (0, 0)), ((1, 41), .inr (.inr 27)), ((4, 12), .inl (1, 12))], [(0, 11)], [(0, 1), (1, 2)]), (7, [(2, .inl (2, 2)), (0, .inr (.inr 1)), (1, .inl (1, 1))], [((1, 45), .inl (1, 1)), ((1, 41), .inr (.inr 27)), ((4, 12), .inl (2, 12))], [(0, 10)], [(0, 1), (1, 2)]), (7, [(2, .inl (3, 3)), (0, .inr (.inr 1)), (1, .inl (1, 1))], [((1, 45), .inl (2, 2)), ((1, 41), .inr (.inr 27)), ((4, 12), .inl (3, 12))], [(0, 9)], [(0, 1), (1, 2)]), (7, [(2, .inl (4, 4)), (0, .inr (.inr 1)), (1, .inl (1, 1))], [((1, 45), .inl (3, 3)), ((1, 41), .inr (.inr 27)), ((4, 12), .inl (4, 12))], [(0, 8)], [(0, 1), (1, 2)]), (7, [(2, .inl (5, 5)), (0, .inr (.inr 1)), (1, .inl (1, 1))], [((1, 45), .inl (4, 4)), ((1, 41), .inr (.inr 27)), ((4, 12), .inl (5, 12))], [(0, 7)], [(0, 1), (1, 2)]), (7, [(2, .inl (6, 6)), (0, .inr (.inr 1)), (1, .inl (1, 1))], [((1, 45), .inl (5, 5)), ((1, 41), .inr (.inr 27)), ((4, 12), .inl (6, 12))], [(0, 6)], [(0, 1), (1, 2)]), (7, [(2, .inl (7, 7)), (0, .inr (.inr 1)), (1, .inl (1, 1))], [((1, 45), .inl (6, 6)), ((1, 41), .inr (.inr 27)), ((4, 12), .inl (7, 12))], [(0, 5)], [(0, 1), (1, 2)]), (7, [(2, .inl (8, 8)), (0, .inr (.inr 1)), (1, .inl (1, 1))], [((1, 45), .inl (7, 7)), ((1, 41), .inr (.inr 27)), ((4, 12), .inl (8, 12))], [(0, 4)], [(0, 1), (1, 2)]), (7, [(2, .inl (9, 9)), (0, .inr (.inr 1)), (1, .inl (1, 1))], [((1, 45), .inl (8, 8)), ((1, 41), .inr (.inr 27)), ((4, 12), .inl (9, 12))], [(0, 3)], [(0, 1), (1, 2)]), (7, [(2, .inl (10, 10)), (0, .inr (.inr 1)), (1, .inl (1, 1))], [((1, 45), .inl (9, 9)), ((1, 41), .inr (.inr 27)), ((4, 12), .inl (10, 12))], [(0, 2)], [(0, 1), (1, 2)]), (7, [(2, .inl (11, 11)), (0, .inr (.inr 1)), (1, .inl (1, 1))], [((1, 45), .inl (10, 10)), ((1, 41), .inr (.inr 27)), ((4, 12), .inl (11, 12))], [(0, 1)], [(0, 1), (1, 2)]), (7, [(2, .inl (12, 12)), (0, .inr (.inr 1)), (1, .inl (1, 1))], [((1, 45), .inl (11, 11)), ((1, 41), .inr (.inr 27)), ((4, 12), .inl (12, 12))], [(0, 0)], [(0, 1), (1, 2)])]
def km123_s : List fx_D := []
def km123_x : fx_X := ([], [(92, 12, 41), (95, 12, 42), (384, 12, 45)], [(384, 12, 45, 0)], [], [], [(20, 474, 1000, km111_c), (20, 474, 1000, km112_c), (20, 474, 1000, km113_c), (20, 474, 1000, km114_c), (20, 474, 1000, km115_c), (20, 474, 1000, km116_c), (20, 474, 1000, km117_c), (20, 474, 1000, km118_c), (20, 474, 1000, km119_c), (20, 474, 1000, km120_c), (20, 474, 1000, km121_c), (20, 474, 1000, km122_c)])
set_option maxRecDepth 100000 in
theorem km123_k : fx_chk TM 3 km123_c 9 km123_x t_X12_layWithout km123_a km123_s 32 = true := by decide +kernel
set_option maxRecDepth 100000 in
theorem km123 {l : Launch} {E : (Nat → Prop) → State → Prop} {ad : List Nat} {D : va_G} {cy : Nat → ClassId} (h : fx_env E D classes (tys cy) nestW) : fx_Met l yX12_layWithout (.code yX12_layWithout cX12_layWithout 3 none :: wsL_law) ({ frames := 1, cells := 0, slots := 0, locals := 21 }) E (gsM, TM, cy, fun _ => True) ad D classes km123_c :=
  fx_sound (x := km123_x) (tb := t_X12_layWithout) (an := km123_a) (sp := km123_s) (rk := 9) 32 h (fun _ _ _ _ _ _ => trivial) (fun _ _ _ _ _ _ => trivial) (ht_tys cy) (by decide) rfl ⟨fx_an, (fx_ac fl_X12_92 (fx_ac fl_X12_95 (fx_ac fl_X12_384 (fx_an)))), (fx_ac pl_X12_384 (fx_an)), fx_an, fx_an, (fx_ac (ev_S (km111 h) ⟨by decide, by decide⟩ iS_X12_has g_X12_474) (fx_ac (ev_S (km112 h) ⟨by decide, by decide⟩ iS_X12_has g_X12_474) (fx_ac (ev_S (km113 h) ⟨by decide, by decide⟩ iS_X12_has g_X12_474) (fx_ac (ev_S (km114 h) ⟨by decide, by decide⟩ iS_X12_has g_X12_474) (fx_ac (ev_S (km115 h) ⟨by decide, by decide⟩ iS_X12_has g_X12_474) (fx_ac (ev_S (km116 h) ⟨by decide, by decide⟩ iS_X12_has g_X12_474) (fx_ac (ev_S (km117 h) ⟨by decide, by decide⟩ iS_X12_has g_X12_474) (fx_ac (ev_S (km118 h) ⟨by decide, by decide⟩ iS_X12_has g_X12_474) (fx_ac (ev_S (km119 h) ⟨by decide, by decide⟩ iS_X12_has g_X12_474) (fx_ac (ev_S (km120 h) ⟨by decide, by decide⟩ iS_X12_has g_X12_474) (fx_ac (ev_S (km121 h) ⟨by decide, by decide⟩ iS_X12_has g_X12_474) (fx_ac (ev_S (km122 h) ⟨by decide, by decide⟩ iS_X12_has g_X12_474) (fx_an)))))))))))))⟩ d_X12_layWithout km123_k
-- X12_has i i ('c', 2) ('c', 0)
def km124_c : fx_C := ([.inl (2, 2), .inl (0, 0)], [], [(some (.inl (0, 0)), [.inl (2, 2), .inl (0, 0)], [])], [])
def km124_a : List fx_N := []
def km124_s : List fx_D := []
def km124_x : fx_X := ([], [], [], [], [], [])
set_option maxRecDepth 100000 in
theorem km124_k : fx_chk TM 2 km124_c 3 km124_x t_X12_has km124_a km124_s 11 = true := by decide +kernel
set_option maxRecDepth 100000 in
theorem km124 {l : Launch} {E : (Nat → Prop) → State → Prop} {ad : List Nat} {D : va_G} {cy : Nat → ClassId} (h : fx_env E D classes (tys cy) nestW) : fx_Met l yX12_has (.code yX12_has cX12_has 2 (some .boolean) :: wsL_law) ({ frames := 0, cells := 0, slots := 0, locals := 0 }) E (gsM, TM, cy, fun _ => True) ad D classes km124_c :=
  fx_sound (x := km124_x) (tb := t_X12_has) (an := km124_a) (sp := km124_s) (rk := 3) 11 h (fun _ _ _ _ _ _ => trivial) (fun _ _ _ _ _ _ => trivial) (ht_tys cy) (by decide) rfl ⟨fx_an, fx_an, fx_an, fx_an, fx_an, fx_an⟩ d_X12_has km124_k
-- X12_has i i ('c', 2) ('c', 1)
def km125_c : fx_C := ([.inl (2, 2), .inl (1, 1)], [], [(some (.inl (1, 1)), [.inl (2, 2), .inl (1, 1)], [])], [])
def km125_a : List fx_N := []
def km125_s : List fx_D := []
def km125_x : fx_X := ([], [], [], [], [], [])
set_option maxRecDepth 100000 in
theorem km125_k : fx_chk TM 2 km125_c 3 km125_x t_X12_has km125_a km125_s 12 = true := by decide +kernel
set_option maxRecDepth 100000 in
theorem km125 {l : Launch} {E : (Nat → Prop) → State → Prop} {ad : List Nat} {D : va_G} {cy : Nat → ClassId} (h : fx_env E D classes (tys cy) nestW) : fx_Met l yX12_has (.code yX12_has cX12_has 2 (some .boolean) :: wsL_law) ({ frames := 0, cells := 0, slots := 0, locals := 0 }) E (gsM, TM, cy, fun _ => True) ad D classes km125_c :=
  fx_sound (x := km125_x) (tb := t_X12_has) (an := km125_a) (sp := km125_s) (rk := 3) 12 h (fun _ _ _ _ _ _ => trivial) (fun _ _ _ _ _ _ => trivial) (ht_tys cy) (by decide) rfl ⟨fx_an, fx_an, fx_an, fx_an, fx_an, fx_an⟩ d_X12_has km125_k
-- X12_has i i ('c', 2) ('c', 2)
def km126_c : fx_C := ([.inl (2, 2), .inl (2, 2)], [], [(some (.inl (0, 0)), [.inl (2, 2), .inl (2, 2)], [])], [])
def km126_a : List fx_N := []
def km126_s : List fx_D := []
def km126_x : fx_X := ([], [], [], [], [], [])
set_option maxRecDepth 100000 in
theorem km126_k : fx_chk TM 2 km126_c 3 km126_x t_X12_has km126_a km126_s 11 = true := by decide +kernel
set_option maxRecDepth 100000 in
theorem km126 {l : Launch} {E : (Nat → Prop) → State → Prop} {ad : List Nat} {D : va_G} {cy : Nat → ClassId} (h : fx_env E D classes (tys cy) nestW) : fx_Met l yX12_has (.code yX12_has cX12_has 2 (some .boolean) :: wsL_law) ({ frames := 0, cells := 0, slots := 0, locals := 0 }) E (gsM, TM, cy, fun _ => True) ad D classes km126_c :=
  fx_sound (x := km126_x) (tb := t_X12_has) (an := km126_a) (sp := km126_s) (rk := 3) 11 h (fun _ _ _ _ _ _ => trivial) (fun _ _ _ _ _ _ => trivial) (ht_tys cy) (by decide) rfl ⟨fx_an, fx_an, fx_an, fx_an, fx_an, fx_an⟩ d_X12_has km126_k
-- X12_has i i ('c', 2) ('c', 3)
def km127_c : fx_C := ([.inl (2, 2), .inl (3, 3)], [], [(some (.inl (0, 0)), [.inl (2, 2), .inl (3, 3)], [])], [])
def km127_a : List fx_N := []
def km127_s : List fx_D := []
def km127_x : fx_X := ([], [], [], [], [], [])
set_option maxRecDepth 100000 in
theorem km127_k : fx_chk TM 2 km127_c 3 km127_x t_X12_has km127_a km127_s 11 = true := by decide +kernel
set_option maxRecDepth 100000 in
theorem km127 {l : Launch} {E : (Nat → Prop) → State → Prop} {ad : List Nat} {D : va_G} {cy : Nat → ClassId} (h : fx_env E D classes (tys cy) nestW) : fx_Met l yX12_has (.code yX12_has cX12_has 2 (some .boolean) :: wsL_law) ({ frames := 0, cells := 0, slots := 0, locals := 0 }) E (gsM, TM, cy, fun _ => True) ad D classes km127_c :=
  fx_sound (x := km127_x) (tb := t_X12_has) (an := km127_a) (sp := km127_s) (rk := 3) 11 h (fun _ _ _ _ _ _ => trivial) (fun _ _ _ _ _ _ => trivial) (ht_tys cy) (by decide) rfl ⟨fx_an, fx_an, fx_an, fx_an, fx_an, fx_an⟩ d_X12_has km127_k
-- X12_has i i ('c', 2) ('c', 4)
def km128_c : fx_C := ([.inl (2, 2), .inl (4, 4)], [], [(some (.inl (0, 0)), [.inl (2, 2), .inl (4, 4)], [])], [])
def km128_a : List fx_N := []
def km128_s : List fx_D := []
def km128_x : fx_X := ([], [], [], [], [], [])
set_option maxRecDepth 100000 in
theorem km128_k : fx_chk TM 2 km128_c 3 km128_x t_X12_has km128_a km128_s 11 = true := by decide +kernel
set_option maxRecDepth 100000 in
theorem km128 {l : Launch} {E : (Nat → Prop) → State → Prop} {ad : List Nat} {D : va_G} {cy : Nat → ClassId} (h : fx_env E D classes (tys cy) nestW) : fx_Met l yX12_has (.code yX12_has cX12_has 2 (some .boolean) :: wsL_law) ({ frames := 0, cells := 0, slots := 0, locals := 0 }) E (gsM, TM, cy, fun _ => True) ad D classes km128_c :=
  fx_sound (x := km128_x) (tb := t_X12_has) (an := km128_a) (sp := km128_s) (rk := 3) 11 h (fun _ _ _ _ _ _ => trivial) (fun _ _ _ _ _ _ => trivial) (ht_tys cy) (by decide) rfl ⟨fx_an, fx_an, fx_an, fx_an, fx_an, fx_an⟩ d_X12_has km128_k
-- X12_has i i ('c', 2) ('c', 5)
def km129_c : fx_C := ([.inl (2, 2), .inl (5, 5)], [], [(some (.inl (0, 0)), [.inl (2, 2), .inl (5, 5)], [])], [])
def km129_a : List fx_N := []
def km129_s : List fx_D := []
def km129_x : fx_X := ([], [], [], [], [], [])
set_option maxRecDepth 100000 in
theorem km129_k : fx_chk TM 2 km129_c 3 km129_x t_X12_has km129_a km129_s 11 = true := by decide +kernel
set_option maxRecDepth 100000 in
theorem km129 {l : Launch} {E : (Nat → Prop) → State → Prop} {ad : List Nat} {D : va_G} {cy : Nat → ClassId} (h : fx_env E D classes (tys cy) nestW) : fx_Met l yX12_has (.code yX12_has cX12_has 2 (some .boolean) :: wsL_law) ({ frames := 0, cells := 0, slots := 0, locals := 0 }) E (gsM, TM, cy, fun _ => True) ad D classes km129_c :=
  fx_sound (x := km129_x) (tb := t_X12_has) (an := km129_a) (sp := km129_s) (rk := 3) 11 h (fun _ _ _ _ _ _ => trivial) (fun _ _ _ _ _ _ => trivial) (ht_tys cy) (by decide) rfl ⟨fx_an, fx_an, fx_an, fx_an, fx_an, fx_an⟩ d_X12_has km129_k
-- X12_has i i ('c', 2) ('c', 6)
def km130_c : fx_C := ([.inl (2, 2), .inl (6, 6)], [], [(some (.inl (0, 0)), [.inl (2, 2), .inl (6, 6)], [])], [])
def km130_a : List fx_N := []
def km130_s : List fx_D := []
def km130_x : fx_X := ([], [], [], [], [], [])
set_option maxRecDepth 100000 in
theorem km130_k : fx_chk TM 2 km130_c 3 km130_x t_X12_has km130_a km130_s 11 = true := by decide +kernel
set_option maxRecDepth 100000 in
theorem km130 {l : Launch} {E : (Nat → Prop) → State → Prop} {ad : List Nat} {D : va_G} {cy : Nat → ClassId} (h : fx_env E D classes (tys cy) nestW) : fx_Met l yX12_has (.code yX12_has cX12_has 2 (some .boolean) :: wsL_law) ({ frames := 0, cells := 0, slots := 0, locals := 0 }) E (gsM, TM, cy, fun _ => True) ad D classes km130_c :=
  fx_sound (x := km130_x) (tb := t_X12_has) (an := km130_a) (sp := km130_s) (rk := 3) 11 h (fun _ _ _ _ _ _ => trivial) (fun _ _ _ _ _ _ => trivial) (ht_tys cy) (by decide) rfl ⟨fx_an, fx_an, fx_an, fx_an, fx_an, fx_an⟩ d_X12_has km130_k
-- X12_has i i ('c', 2) ('c', 7)
def km131_c : fx_C := ([.inl (2, 2), .inl (7, 7)], [], [(some (.inl (0, 0)), [.inl (2, 2), .inl (7, 7)], [])], [])
def km131_a : List fx_N := []
def km131_s : List fx_D := []
def km131_x : fx_X := ([], [], [], [], [], [])
set_option maxRecDepth 100000 in
theorem km131_k : fx_chk TM 2 km131_c 3 km131_x t_X12_has km131_a km131_s 11 = true := by decide +kernel
set_option maxRecDepth 100000 in
theorem km131 {l : Launch} {E : (Nat → Prop) → State → Prop} {ad : List Nat} {D : va_G} {cy : Nat → ClassId} (h : fx_env E D classes (tys cy) nestW) : fx_Met l yX12_has (.code yX12_has cX12_has 2 (some .boolean) :: wsL_law) ({ frames := 0, cells := 0, slots := 0, locals := 0 }) E (gsM, TM, cy, fun _ => True) ad D classes km131_c :=
  fx_sound (x := km131_x) (tb := t_X12_has) (an := km131_a) (sp := km131_s) (rk := 3) 11 h (fun _ _ _ _ _ _ => trivial) (fun _ _ _ _ _ _ => trivial) (ht_tys cy) (by decide) rfl ⟨fx_an, fx_an, fx_an, fx_an, fx_an, fx_an⟩ d_X12_has km131_k
-- X12_has i i ('c', 2) ('c', 8)
def km132_c : fx_C := ([.inl (2, 2), .inl (8, 8)], [], [(some (.inl (0, 0)), [.inl (2, 2), .inl (8, 8)], [])], [])
def km132_a : List fx_N := []
def km132_s : List fx_D := []
def km132_x : fx_X := ([], [], [], [], [], [])
set_option maxRecDepth 100000 in
theorem km132_k : fx_chk TM 2 km132_c 3 km132_x t_X12_has km132_a km132_s 11 = true := by decide +kernel
set_option maxRecDepth 100000 in
theorem km132 {l : Launch} {E : (Nat → Prop) → State → Prop} {ad : List Nat} {D : va_G} {cy : Nat → ClassId} (h : fx_env E D classes (tys cy) nestW) : fx_Met l yX12_has (.code yX12_has cX12_has 2 (some .boolean) :: wsL_law) ({ frames := 0, cells := 0, slots := 0, locals := 0 }) E (gsM, TM, cy, fun _ => True) ad D classes km132_c :=
  fx_sound (x := km132_x) (tb := t_X12_has) (an := km132_a) (sp := km132_s) (rk := 3) 11 h (fun _ _ _ _ _ _ => trivial) (fun _ _ _ _ _ _ => trivial) (ht_tys cy) (by decide) rfl ⟨fx_an, fx_an, fx_an, fx_an, fx_an, fx_an⟩ d_X12_has km132_k
-- X12_has i i ('c', 2) ('c', 9)
def km133_c : fx_C := ([.inl (2, 2), .inl (9, 9)], [], [(some (.inl (0, 0)), [.inl (2, 2), .inl (9, 9)], [])], [])
def km133_a : List fx_N := []
def km133_s : List fx_D := []
def km133_x : fx_X := ([], [], [], [], [], [])
set_option maxRecDepth 100000 in
theorem km133_k : fx_chk TM 2 km133_c 3 km133_x t_X12_has km133_a km133_s 11 = true := by decide +kernel
set_option maxRecDepth 100000 in
theorem km133 {l : Launch} {E : (Nat → Prop) → State → Prop} {ad : List Nat} {D : va_G} {cy : Nat → ClassId} (h : fx_env E D classes (tys cy) nestW) : fx_Met l yX12_has (.code yX12_has cX12_has 2 (some .boolean) :: wsL_law) ({ frames := 0, cells := 0, slots := 0, locals := 0 }) E (gsM, TM, cy, fun _ => True) ad D classes km133_c :=
  fx_sound (x := km133_x) (tb := t_X12_has) (an := km133_a) (sp := km133_s) (rk := 3) 11 h (fun _ _ _ _ _ _ => trivial) (fun _ _ _ _ _ _ => trivial) (ht_tys cy) (by decide) rfl ⟨fx_an, fx_an, fx_an, fx_an, fx_an, fx_an⟩ d_X12_has km133_k
-- X12_has i i ('c', 2) ('c', 10)
def km134_c : fx_C := ([.inl (2, 2), .inl (10, 10)], [], [(some (.inl (0, 0)), [.inl (2, 2), .inl (10, 10)], [])], [])
def km134_a : List fx_N := []
def km134_s : List fx_D := []
def km134_x : fx_X := ([], [], [], [], [], [])
set_option maxRecDepth 100000 in
theorem km134_k : fx_chk TM 2 km134_c 3 km134_x t_X12_has km134_a km134_s 11 = true := by decide +kernel
set_option maxRecDepth 100000 in
theorem km134 {l : Launch} {E : (Nat → Prop) → State → Prop} {ad : List Nat} {D : va_G} {cy : Nat → ClassId} (h : fx_env E D classes (tys cy) nestW) : fx_Met l yX12_has (.code yX12_has cX12_has 2 (some .boolean) :: wsL_law) ({ frames := 0, cells := 0, slots := 0, locals := 0 }) E (gsM, TM, cy, fun _ => True) ad D classes km134_c :=
  fx_sound (x := km134_x) (tb := t_X12_has) (an := km134_a) (sp := km134_s) (rk := 3) 11 h (fun _ _ _ _ _ _ => trivial) (fun _ _ _ _ _ _ => trivial) (ht_tys cy) (by decide) rfl ⟨fx_an, fx_an, fx_an, fx_an, fx_an, fx_an⟩ d_X12_has km134_k
-- X12_has i i ('c', 2) ('c', 11)
def km135_c : fx_C := ([.inl (2, 2), .inl (11, 11)], [], [(some (.inl (0, 0)), [.inl (2, 2), .inl (11, 11)], [])], [])
def km135_a : List fx_N := []
def km135_s : List fx_D := []
def km135_x : fx_X := ([], [], [], [], [], [])
set_option maxRecDepth 100000 in
theorem km135_k : fx_chk TM 2 km135_c 3 km135_x t_X12_has km135_a km135_s 11 = true := by decide +kernel
set_option maxRecDepth 100000 in
theorem km135 {l : Launch} {E : (Nat → Prop) → State → Prop} {ad : List Nat} {D : va_G} {cy : Nat → ClassId} (h : fx_env E D classes (tys cy) nestW) : fx_Met l yX12_has (.code yX12_has cX12_has 2 (some .boolean) :: wsL_law) ({ frames := 0, cells := 0, slots := 0, locals := 0 }) E (gsM, TM, cy, fun _ => True) ad D classes km135_c :=
  fx_sound (x := km135_x) (tb := t_X12_has) (an := km135_a) (sp := km135_s) (rk := 3) 11 h (fun _ _ _ _ _ _ => trivial) (fun _ _ _ _ _ _ => trivial) (ht_tys cy) (by decide) rfl ⟨fx_an, fx_an, fx_an, fx_an, fx_an, fx_an⟩ d_X12_has km135_k
-- X12_layWithout 0 i ('c', 2)
def km136_c : fx_C := ([.inr (.inr 1), .inl (2, 2)], [], [(none, [.inr (.inr 1), .inl (2, 2)], [((0, 45), .inl (0, 11))])], [(12, 45), (1000, 27)])
def km136_a : List fx_N := [(7, [(2, .inl (0, 0)), (0, .inr (.inr 1)), (1, .inl (2, 2))], [((1, 45), .inl (0, 0))], [(0, 12)], [(0, 1), (1, 2)]), (7, [(2, .inl (1, 1)), (0, .inr (.inr 1)), (1, .inl (2, 2))], [((1, 45), .inl (1, 1)), ((1, 41), .inr (.inr 27)), ((4, 12), .inl (1, 12))], [(0, 11)], [(0, 1), (1, 2)]), (7, [(2, .inl (2, 2)), (0, .inr (.inr 1)), (1, .inl (2, 2))], [((1, 45), .inl (1, 1)), ((1, 41), .inr (.inr 27)), ((4, 12), .inl (2, 12))], [(0, 10)], [(0, 1), (1, 2)]), (7, [(2, .inl (3, 3)), (0, .inr (.inr 1)), (1, .inl (2, 2))], [((1, 45), .inl (2, 2)), ((1, 41), .inr (.inr 27)), ((4, 12), .inl (3, 12))], [(0, 9)], [(0, 1), (1, 2)]), (7, [(2, .inl (4, 4)), (0, .inr (.inr 1)), (1, .inl (2, 2))], [((1, 45), .inl (3, 3)), ((1, 41), .inr (.inr 27)), ((4, 12), .inl (4, 12))], [(0, 8)], [(0, 1), (1, 2)]), (7, [(2, .inl (5, 5)), (0, .inr (.inr 1)), (1, .inl (2, 2))], [((1, 45), .inl (4, 4)), ((1, 41), .inr (.inr 27)), ((4, 12), .inl (5, 12))], [(0, 7)], [(0, 1), (1, 2)]), (7, [(2, .inl (6, 6)), (0, .inr (.inr 1)), (1, .inl (2, 2))], [((1, 45), .inl (5, 5)), ((1, 41), .inr (.inr 27)), ((4, 12), .inl (6, 12))], [(0, 6)], [(0, 1), (1, 2)]), (7, [(2, .inl (7, 7)), (0, .inr (.inr 1)), (1, .inl (2, 2))], [((1, 45), .inl (6, 6)), ((1, 41), .inr (.inr 27)), ((4, 12), .inl (7, 12))], [(0, 5)], [(0, 1), (1, 2)]), (7, [(2, .inl (8, 8)), (0, .inr (.inr 1)), (1, .inl (2, 2))], [((1, 45), .inl (7, 7)), ((1, 41), .inr (.inr 27)), ((4, 12), .inl (8, 12))], [(0, 4)], [(0, 1), (1, 2)]), (7, [(2, .inl (9, 9)), (0, .inr (.inr 1)), (1, .inl (2, 2))], [((1, 45), .inl (8, 8)), ((1, 41), .inr (.inr 27)), ((4, 12), .inl (9, 12))], [(0, 3)], [(0, 1), (1, 2)]), (7, [(2, .inl (10, 10)), (0, .inr (.inr 1)), (1, .inl (2, 2))], [((1, 45), .inl (9, 9)), ((1, 41), .inr (.inr 27)), ((4, 12), .inl (10, 12))], [(0, 2)], [(0, 1), (1, 2)]), (7, [(2, .inl (11, 11)), (0, .inr (.inr 1)), (1, .inl (2, 2))], [((1, 45), .inl (10, 10)), ((1, 41), .inr (.inr 27)), ((4, 12), .inl (11, 12))], [(0, 1)], [(0, 1), (1, 2)]), (7, [(2, .inl (12, 12)), (0, .inr (.inr 1)), (1, .inl (2, 2))], [((1, 45), .inl (11, 11)), ((1, 41), .inr (.inr 27)), ((4, 12), .inl (12, 12))], [(0, 0)], [(0, 1), (1, 2)])]
def km136_s : List fx_D := []
def km136_x : fx_X := ([], [(92, 12, 41), (95, 12, 42), (384, 12, 45)], [(384, 12, 45, 0)], [], [], [(20, 474, 1000, km124_c), (20, 474, 1000, km125_c), (20, 474, 1000, km126_c), (20, 474, 1000, km127_c), (20, 474, 1000, km128_c), (20, 474, 1000, km129_c), (20, 474, 1000, km130_c), (20, 474, 1000, km131_c), (20, 474, 1000, km132_c), (20, 474, 1000, km133_c), (20, 474, 1000, km134_c), (20, 474, 1000, km135_c)])
set_option maxRecDepth 100000 in
theorem km136_k : fx_chk TM 3 km136_c 9 km136_x t_X12_layWithout km136_a km136_s 32 = true := by decide +kernel
set_option maxRecDepth 100000 in
theorem km136 {l : Launch} {E : (Nat → Prop) → State → Prop} {ad : List Nat} {D : va_G} {cy : Nat → ClassId} (h : fx_env E D classes (tys cy) nestW) : fx_Met l yX12_layWithout (.code yX12_layWithout cX12_layWithout 3 none :: wsL_law) ({ frames := 1, cells := 0, slots := 0, locals := 21 }) E (gsM, TM, cy, fun _ => True) ad D classes km136_c :=
  fx_sound (x := km136_x) (tb := t_X12_layWithout) (an := km136_a) (sp := km136_s) (rk := 9) 32 h (fun _ _ _ _ _ _ => trivial) (fun _ _ _ _ _ _ => trivial) (ht_tys cy) (by decide) rfl ⟨fx_an, (fx_ac fl_X12_92 (fx_ac fl_X12_95 (fx_ac fl_X12_384 (fx_an)))), (fx_ac pl_X12_384 (fx_an)), fx_an, fx_an, (fx_ac (ev_S (km124 h) ⟨by decide, by decide⟩ iS_X12_has g_X12_474) (fx_ac (ev_S (km125 h) ⟨by decide, by decide⟩ iS_X12_has g_X12_474) (fx_ac (ev_S (km126 h) ⟨by decide, by decide⟩ iS_X12_has g_X12_474) (fx_ac (ev_S (km127 h) ⟨by decide, by decide⟩ iS_X12_has g_X12_474) (fx_ac (ev_S (km128 h) ⟨by decide, by decide⟩ iS_X12_has g_X12_474) (fx_ac (ev_S (km129 h) ⟨by decide, by decide⟩ iS_X12_has g_X12_474) (fx_ac (ev_S (km130 h) ⟨by decide, by decide⟩ iS_X12_has g_X12_474) (fx_ac (ev_S (km131 h) ⟨by decide, by decide⟩ iS_X12_has g_X12_474) (fx_ac (ev_S (km132 h) ⟨by decide, by decide⟩ iS_X12_has g_X12_474) (fx_ac (ev_S (km133 h) ⟨by decide, by decide⟩ iS_X12_has g_X12_474) (fx_ac (ev_S (km134 h) ⟨by decide, by decide⟩ iS_X12_has g_X12_474) (fx_ac (ev_S (km135 h) ⟨by decide, by decide⟩ iS_X12_has g_X12_474) (fx_an)))))))))))))⟩ d_X12_layWithout km136_k
-- X12_has i i ('c', 4) ('c', 0)
def km137_c : fx_C := ([.inl (4, 4), .inl (0, 0)], [], [(some (.inl (0, 0)), [.inl (4, 4), .inl (0, 0)], [])], [])
def km137_a : List fx_N := []
def km137_s : List fx_D := []
def km137_x : fx_X := ([], [], [], [], [], [])
set_option maxRecDepth 100000 in
theorem km137_k : fx_chk TM 2 km137_c 3 km137_x t_X12_has km137_a km137_s 11 = true := by decide +kernel
set_option maxRecDepth 100000 in
theorem km137 {l : Launch} {E : (Nat → Prop) → State → Prop} {ad : List Nat} {D : va_G} {cy : Nat → ClassId} (h : fx_env E D classes (tys cy) nestW) : fx_Met l yX12_has (.code yX12_has cX12_has 2 (some .boolean) :: wsL_law) ({ frames := 0, cells := 0, slots := 0, locals := 0 }) E (gsM, TM, cy, fun _ => True) ad D classes km137_c :=
  fx_sound (x := km137_x) (tb := t_X12_has) (an := km137_a) (sp := km137_s) (rk := 3) 11 h (fun _ _ _ _ _ _ => trivial) (fun _ _ _ _ _ _ => trivial) (ht_tys cy) (by decide) rfl ⟨fx_an, fx_an, fx_an, fx_an, fx_an, fx_an⟩ d_X12_has km137_k
-- X12_has i i ('c', 4) ('c', 1)
def km138_c : fx_C := ([.inl (4, 4), .inl (1, 1)], [], [(some (.inl (0, 0)), [.inl (4, 4), .inl (1, 1)], [])], [])
def km138_a : List fx_N := []
def km138_s : List fx_D := []
def km138_x : fx_X := ([], [], [], [], [], [])
set_option maxRecDepth 100000 in
theorem km138_k : fx_chk TM 2 km138_c 3 km138_x t_X12_has km138_a km138_s 11 = true := by decide +kernel
set_option maxRecDepth 100000 in
theorem km138 {l : Launch} {E : (Nat → Prop) → State → Prop} {ad : List Nat} {D : va_G} {cy : Nat → ClassId} (h : fx_env E D classes (tys cy) nestW) : fx_Met l yX12_has (.code yX12_has cX12_has 2 (some .boolean) :: wsL_law) ({ frames := 0, cells := 0, slots := 0, locals := 0 }) E (gsM, TM, cy, fun _ => True) ad D classes km138_c :=
  fx_sound (x := km138_x) (tb := t_X12_has) (an := km138_a) (sp := km138_s) (rk := 3) 11 h (fun _ _ _ _ _ _ => trivial) (fun _ _ _ _ _ _ => trivial) (ht_tys cy) (by decide) rfl ⟨fx_an, fx_an, fx_an, fx_an, fx_an, fx_an⟩ d_X12_has km138_k
-- X12_has i i ('c', 4) ('c', 2)
def km139_c : fx_C := ([.inl (4, 4), .inl (2, 2)], [], [(some (.inl (1, 1)), [.inl (4, 4), .inl (2, 2)], [])], [])
def km139_a : List fx_N := []
def km139_s : List fx_D := []
def km139_x : fx_X := ([], [], [], [], [], [])
set_option maxRecDepth 100000 in
theorem km139_k : fx_chk TM 2 km139_c 3 km139_x t_X12_has km139_a km139_s 12 = true := by decide +kernel
set_option maxRecDepth 100000 in
theorem km139 {l : Launch} {E : (Nat → Prop) → State → Prop} {ad : List Nat} {D : va_G} {cy : Nat → ClassId} (h : fx_env E D classes (tys cy) nestW) : fx_Met l yX12_has (.code yX12_has cX12_has 2 (some .boolean) :: wsL_law) ({ frames := 0, cells := 0, slots := 0, locals := 0 }) E (gsM, TM, cy, fun _ => True) ad D classes km139_c :=
  fx_sound (x := km139_x) (tb := t_X12_has) (an := km139_a) (sp := km139_s) (rk := 3) 12 h (fun _ _ _ _ _ _ => trivial) (fun _ _ _ _ _ _ => trivial) (ht_tys cy) (by decide) rfl ⟨fx_an, fx_an, fx_an, fx_an, fx_an, fx_an⟩ d_X12_has km139_k
-- X12_has i i ('c', 4) ('c', 3)
def km140_c : fx_C := ([.inl (4, 4), .inl (3, 3)], [], [(some (.inl (0, 0)), [.inl (4, 4), .inl (3, 3)], [])], [])
def km140_a : List fx_N := []
def km140_s : List fx_D := []
def km140_x : fx_X := ([], [], [], [], [], [])
set_option maxRecDepth 100000 in
theorem km140_k : fx_chk TM 2 km140_c 3 km140_x t_X12_has km140_a km140_s 11 = true := by decide +kernel
set_option maxRecDepth 100000 in
theorem km140 {l : Launch} {E : (Nat → Prop) → State → Prop} {ad : List Nat} {D : va_G} {cy : Nat → ClassId} (h : fx_env E D classes (tys cy) nestW) : fx_Met l yX12_has (.code yX12_has cX12_has 2 (some .boolean) :: wsL_law) ({ frames := 0, cells := 0, slots := 0, locals := 0 }) E (gsM, TM, cy, fun _ => True) ad D classes km140_c :=
  fx_sound (x := km140_x) (tb := t_X12_has) (an := km140_a) (sp := km140_s) (rk := 3) 11 h (fun _ _ _ _ _ _ => trivial) (fun _ _ _ _ _ _ => trivial) (ht_tys cy) (by decide) rfl ⟨fx_an, fx_an, fx_an, fx_an, fx_an, fx_an⟩ d_X12_has km140_k
-- X12_has i i ('c', 4) ('c', 4)
def km141_c : fx_C := ([.inl (4, 4), .inl (4, 4)], [], [(some (.inl (0, 0)), [.inl (4, 4), .inl (4, 4)], [])], [])
def km141_a : List fx_N := []
def km141_s : List fx_D := []
def km141_x : fx_X := ([], [], [], [], [], [])
set_option maxRecDepth 100000 in
theorem km141_k : fx_chk TM 2 km141_c 3 km141_x t_X12_has km141_a km141_s 11 = true := by decide +kernel
set_option maxRecDepth 100000 in
theorem km141 {l : Launch} {E : (Nat → Prop) → State → Prop} {ad : List Nat} {D : va_G} {cy : Nat → ClassId} (h : fx_env E D classes (tys cy) nestW) : fx_Met l yX12_has (.code yX12_has cX12_has 2 (some .boolean) :: wsL_law) ({ frames := 0, cells := 0, slots := 0, locals := 0 }) E (gsM, TM, cy, fun _ => True) ad D classes km141_c :=
  fx_sound (x := km141_x) (tb := t_X12_has) (an := km141_a) (sp := km141_s) (rk := 3) 11 h (fun _ _ _ _ _ _ => trivial) (fun _ _ _ _ _ _ => trivial) (ht_tys cy) (by decide) rfl ⟨fx_an, fx_an, fx_an, fx_an, fx_an, fx_an⟩ d_X12_has km141_k
-- X12_has i i ('c', 4) ('c', 5)
def km142_c : fx_C := ([.inl (4, 4), .inl (5, 5)], [], [(some (.inl (0, 0)), [.inl (4, 4), .inl (5, 5)], [])], [])
def km142_a : List fx_N := []
def km142_s : List fx_D := []
def km142_x : fx_X := ([], [], [], [], [], [])
set_option maxRecDepth 100000 in
theorem km142_k : fx_chk TM 2 km142_c 3 km142_x t_X12_has km142_a km142_s 11 = true := by decide +kernel
set_option maxRecDepth 100000 in
theorem km142 {l : Launch} {E : (Nat → Prop) → State → Prop} {ad : List Nat} {D : va_G} {cy : Nat → ClassId} (h : fx_env E D classes (tys cy) nestW) : fx_Met l yX12_has (.code yX12_has cX12_has 2 (some .boolean) :: wsL_law) ({ frames := 0, cells := 0, slots := 0, locals := 0 }) E (gsM, TM, cy, fun _ => True) ad D classes km142_c :=
  fx_sound (x := km142_x) (tb := t_X12_has) (an := km142_a) (sp := km142_s) (rk := 3) 11 h (fun _ _ _ _ _ _ => trivial) (fun _ _ _ _ _ _ => trivial) (ht_tys cy) (by decide) rfl ⟨fx_an, fx_an, fx_an, fx_an, fx_an, fx_an⟩ d_X12_has km142_k
-- X12_has i i ('c', 4) ('c', 6)
def km143_c : fx_C := ([.inl (4, 4), .inl (6, 6)], [], [(some (.inl (0, 0)), [.inl (4, 4), .inl (6, 6)], [])], [])
def km143_a : List fx_N := []
def km143_s : List fx_D := []
def km143_x : fx_X := ([], [], [], [], [], [])
set_option maxRecDepth 100000 in
theorem km143_k : fx_chk TM 2 km143_c 3 km143_x t_X12_has km143_a km143_s 11 = true := by decide +kernel
set_option maxRecDepth 100000 in
theorem km143 {l : Launch} {E : (Nat → Prop) → State → Prop} {ad : List Nat} {D : va_G} {cy : Nat → ClassId} (h : fx_env E D classes (tys cy) nestW) : fx_Met l yX12_has (.code yX12_has cX12_has 2 (some .boolean) :: wsL_law) ({ frames := 0, cells := 0, slots := 0, locals := 0 }) E (gsM, TM, cy, fun _ => True) ad D classes km143_c :=
  fx_sound (x := km143_x) (tb := t_X12_has) (an := km143_a) (sp := km143_s) (rk := 3) 11 h (fun _ _ _ _ _ _ => trivial) (fun _ _ _ _ _ _ => trivial) (ht_tys cy) (by decide) rfl ⟨fx_an, fx_an, fx_an, fx_an, fx_an, fx_an⟩ d_X12_has km143_k
-- X12_has i i ('c', 4) ('c', 7)
def km144_c : fx_C := ([.inl (4, 4), .inl (7, 7)], [], [(some (.inl (0, 0)), [.inl (4, 4), .inl (7, 7)], [])], [])
def km144_a : List fx_N := []
def km144_s : List fx_D := []
def km144_x : fx_X := ([], [], [], [], [], [])
set_option maxRecDepth 100000 in
theorem km144_k : fx_chk TM 2 km144_c 3 km144_x t_X12_has km144_a km144_s 11 = true := by decide +kernel
set_option maxRecDepth 100000 in
theorem km144 {l : Launch} {E : (Nat → Prop) → State → Prop} {ad : List Nat} {D : va_G} {cy : Nat → ClassId} (h : fx_env E D classes (tys cy) nestW) : fx_Met l yX12_has (.code yX12_has cX12_has 2 (some .boolean) :: wsL_law) ({ frames := 0, cells := 0, slots := 0, locals := 0 }) E (gsM, TM, cy, fun _ => True) ad D classes km144_c :=
  fx_sound (x := km144_x) (tb := t_X12_has) (an := km144_a) (sp := km144_s) (rk := 3) 11 h (fun _ _ _ _ _ _ => trivial) (fun _ _ _ _ _ _ => trivial) (ht_tys cy) (by decide) rfl ⟨fx_an, fx_an, fx_an, fx_an, fx_an, fx_an⟩ d_X12_has km144_k
-- X12_has i i ('c', 4) ('c', 8)
def km145_c : fx_C := ([.inl (4, 4), .inl (8, 8)], [], [(some (.inl (0, 0)), [.inl (4, 4), .inl (8, 8)], [])], [])
def km145_a : List fx_N := []
def km145_s : List fx_D := []
def km145_x : fx_X := ([], [], [], [], [], [])
set_option maxRecDepth 100000 in
theorem km145_k : fx_chk TM 2 km145_c 3 km145_x t_X12_has km145_a km145_s 11 = true := by decide +kernel
set_option maxRecDepth 100000 in
theorem km145 {l : Launch} {E : (Nat → Prop) → State → Prop} {ad : List Nat} {D : va_G} {cy : Nat → ClassId} (h : fx_env E D classes (tys cy) nestW) : fx_Met l yX12_has (.code yX12_has cX12_has 2 (some .boolean) :: wsL_law) ({ frames := 0, cells := 0, slots := 0, locals := 0 }) E (gsM, TM, cy, fun _ => True) ad D classes km145_c :=
  fx_sound (x := km145_x) (tb := t_X12_has) (an := km145_a) (sp := km145_s) (rk := 3) 11 h (fun _ _ _ _ _ _ => trivial) (fun _ _ _ _ _ _ => trivial) (ht_tys cy) (by decide) rfl ⟨fx_an, fx_an, fx_an, fx_an, fx_an, fx_an⟩ d_X12_has km145_k
-- X12_has i i ('c', 4) ('c', 9)
def km146_c : fx_C := ([.inl (4, 4), .inl (9, 9)], [], [(some (.inl (0, 0)), [.inl (4, 4), .inl (9, 9)], [])], [])
def km146_a : List fx_N := []
def km146_s : List fx_D := []
def km146_x : fx_X := ([], [], [], [], [], [])
set_option maxRecDepth 100000 in
theorem km146_k : fx_chk TM 2 km146_c 3 km146_x t_X12_has km146_a km146_s 11 = true := by decide +kernel
set_option maxRecDepth 100000 in
theorem km146 {l : Launch} {E : (Nat → Prop) → State → Prop} {ad : List Nat} {D : va_G} {cy : Nat → ClassId} (h : fx_env E D classes (tys cy) nestW) : fx_Met l yX12_has (.code yX12_has cX12_has 2 (some .boolean) :: wsL_law) ({ frames := 0, cells := 0, slots := 0, locals := 0 }) E (gsM, TM, cy, fun _ => True) ad D classes km146_c :=
  fx_sound (x := km146_x) (tb := t_X12_has) (an := km146_a) (sp := km146_s) (rk := 3) 11 h (fun _ _ _ _ _ _ => trivial) (fun _ _ _ _ _ _ => trivial) (ht_tys cy) (by decide) rfl ⟨fx_an, fx_an, fx_an, fx_an, fx_an, fx_an⟩ d_X12_has km146_k
-- X12_has i i ('c', 4) ('c', 10)
def km147_c : fx_C := ([.inl (4, 4), .inl (10, 10)], [], [(some (.inl (0, 0)), [.inl (4, 4), .inl (10, 10)], [])], [])
def km147_a : List fx_N := []
def km147_s : List fx_D := []
def km147_x : fx_X := ([], [], [], [], [], [])
set_option maxRecDepth 100000 in
theorem km147_k : fx_chk TM 2 km147_c 3 km147_x t_X12_has km147_a km147_s 11 = true := by decide +kernel
set_option maxRecDepth 100000 in
theorem km147 {l : Launch} {E : (Nat → Prop) → State → Prop} {ad : List Nat} {D : va_G} {cy : Nat → ClassId} (h : fx_env E D classes (tys cy) nestW) : fx_Met l yX12_has (.code yX12_has cX12_has 2 (some .boolean) :: wsL_law) ({ frames := 0, cells := 0, slots := 0, locals := 0 }) E (gsM, TM, cy, fun _ => True) ad D classes km147_c :=
  fx_sound (x := km147_x) (tb := t_X12_has) (an := km147_a) (sp := km147_s) (rk := 3) 11 h (fun _ _ _ _ _ _ => trivial) (fun _ _ _ _ _ _ => trivial) (ht_tys cy) (by decide) rfl ⟨fx_an, fx_an, fx_an, fx_an, fx_an, fx_an⟩ d_X12_has km147_k
-- X12_has i i ('c', 4) ('c', 11)
def km148_c : fx_C := ([.inl (4, 4), .inl (11, 11)], [], [(some (.inl (0, 0)), [.inl (4, 4), .inl (11, 11)], [])], [])
def km148_a : List fx_N := []
def km148_s : List fx_D := []
def km148_x : fx_X := ([], [], [], [], [], [])
set_option maxRecDepth 100000 in
theorem km148_k : fx_chk TM 2 km148_c 3 km148_x t_X12_has km148_a km148_s 11 = true := by decide +kernel
set_option maxRecDepth 100000 in
theorem km148 {l : Launch} {E : (Nat → Prop) → State → Prop} {ad : List Nat} {D : va_G} {cy : Nat → ClassId} (h : fx_env E D classes (tys cy) nestW) : fx_Met l yX12_has (.code yX12_has cX12_has 2 (some .boolean) :: wsL_law) ({ frames := 0, cells := 0, slots := 0, locals := 0 }) E (gsM, TM, cy, fun _ => True) ad D classes km148_c :=
  fx_sound (x := km148_x) (tb := t_X12_has) (an := km148_a) (sp := km148_s) (rk := 3) 11 h (fun _ _ _ _ _ _ => trivial) (fun _ _ _ _ _ _ => trivial) (ht_tys cy) (by decide) rfl ⟨fx_an, fx_an, fx_an, fx_an, fx_an, fx_an⟩ d_X12_has km148_k
-- X12_layWithout 0 i ('c', 4)
def km149_c : fx_C := ([.inr (.inr 1), .inl (4, 4)], [], [(none, [.inr (.inr 1), .inl (4, 4)], [((0, 45), .inl (0, 11))])], [(12, 45), (1000, 27)])
def km149_a : List fx_N := [(7, [(2, .inl (0, 0)), (0, .inr (.inr 1)), (1, .inl (4, 4))], [((1, 45), .inl (0, 0))], [(0, 12)], [(0, 1), (1, 2)]), (7, [(2, .inl (1, 1)), (0, .inr (.inr 1)), (1, .inl (4, 4))], [((1, 45), .inl (1, 1)), ((1, 41), .inr (.inr 27)), ((4, 12), .inl (1, 12))], [(0, 11)], [(0, 1), (1, 2)]), (7, [(2, .inl (2, 2)), (0, .inr (.inr 1)), (1, .inl (4, 4))], [((1, 45), .inl (2, 2)), ((1, 41), .inr (.inr 27)), ((4, 12), .inl (2, 12))], [(0, 10)], [(0, 1), (1, 2)]), (7, [(2, .inl (3, 3)), (0, .inr (.inr 1)), (1, .inl (4, 4))], [((1, 45), .inl (2, 2)), ((1, 41), .inr (.inr 27)), ((4, 12), .inl (3, 12))], [(0, 9)], [(0, 1), (1, 2)]), (7, [(2, .inl (4, 4)), (0, .inr (.inr 1)), (1, .inl (4, 4))], [((1, 45), .inl (3, 3)), ((1, 41), .inr (.inr 27)), ((4, 12), .inl (4, 12))], [(0, 8)], [(0, 1), (1, 2)]), (7, [(2, .inl (5, 5)), (0, .inr (.inr 1)), (1, .inl (4, 4))], [((1, 45), .inl (4, 4)), ((1, 41), .inr (.inr 27)), ((4, 12), .inl (5, 12))], [(0, 7)], [(0, 1), (1, 2)]), (7, [(2, .inl (6, 6)), (0, .inr (.inr 1)), (1, .inl (4, 4))], [((1, 45), .inl (5, 5)), ((1, 41), .inr (.inr 27)), ((4, 12), .inl (6, 12))], [(0, 6)], [(0, 1), (1, 2)]), (7, [(2, .inl (7, 7)), (0, .inr (.inr 1)), (1, .inl (4, 4))], [((1, 45), .inl (6, 6)), ((1, 41), .inr (.inr 27)), ((4, 12), .inl (7, 12))], [(0, 5)], [(0, 1), (1, 2)]), (7, [(2, .inl (8, 8)), (0, .inr (.inr 1)), (1, .inl (4, 4))], [((1, 45), .inl (7, 7)), ((1, 41), .inr (.inr 27)), ((4, 12), .inl (8, 12))], [(0, 4)], [(0, 1), (1, 2)]), (7, [(2, .inl (9, 9)), (0, .inr (.inr 1)), (1, .inl (4, 4))], [((1, 45), .inl (8, 8)), ((1, 41), .inr (.inr 27)), ((4, 12), .inl (9, 12))], [(0, 3)], [(0, 1), (1, 2)]), (7, [(2, .inl (10, 10)), (0, .inr (.inr 1)), (1, .inl (4, 4))], [((1, 45), .inl (9, 9)), ((1, 41), .inr (.inr 27)), ((4, 12), .inl (10, 12))], [(0, 2)], [(0, 1), (1, 2)]), (7, [(2, .inl (11, 11)), (0, .inr (.inr 1)), (1, .inl (4, 4))], [((1, 45), .inl (10, 10)), ((1, 41), .inr (.inr 27)), ((4, 12), .inl (11, 12))], [(0, 1)], [(0, 1), (1, 2)]), (7, [(2, .inl (12, 12)), (0, .inr (.inr 1)), (1, .inl (4, 4))], [((1, 45), .inl (11, 11)), ((1, 41), .inr (.inr 27)), ((4, 12), .inl (12, 12))], [(0, 0)], [(0, 1), (1, 2)])]
def km149_s : List fx_D := []
def km149_x : fx_X := ([], [(92, 12, 41), (95, 12, 42), (384, 12, 45)], [(384, 12, 45, 0)], [], [], [(20, 474, 1000, km137_c), (20, 474, 1000, km138_c), (20, 474, 1000, km139_c), (20, 474, 1000, km140_c), (20, 474, 1000, km141_c), (20, 474, 1000, km142_c), (20, 474, 1000, km143_c), (20, 474, 1000, km144_c), (20, 474, 1000, km145_c), (20, 474, 1000, km146_c), (20, 474, 1000, km147_c), (20, 474, 1000, km148_c)])
set_option maxRecDepth 100000 in
theorem km149_k : fx_chk TM 3 km149_c 9 km149_x t_X12_layWithout km149_a km149_s 32 = true := by decide +kernel
set_option maxRecDepth 100000 in
theorem km149 {l : Launch} {E : (Nat → Prop) → State → Prop} {ad : List Nat} {D : va_G} {cy : Nat → ClassId} (h : fx_env E D classes (tys cy) nestW) : fx_Met l yX12_layWithout (.code yX12_layWithout cX12_layWithout 3 none :: wsL_law) ({ frames := 1, cells := 0, slots := 0, locals := 21 }) E (gsM, TM, cy, fun _ => True) ad D classes km149_c :=
  fx_sound (x := km149_x) (tb := t_X12_layWithout) (an := km149_a) (sp := km149_s) (rk := 9) 32 h (fun _ _ _ _ _ _ => trivial) (fun _ _ _ _ _ _ => trivial) (ht_tys cy) (by decide) rfl ⟨fx_an, (fx_ac fl_X12_92 (fx_ac fl_X12_95 (fx_ac fl_X12_384 (fx_an)))), (fx_ac pl_X12_384 (fx_an)), fx_an, fx_an, (fx_ac (ev_S (km137 h) ⟨by decide, by decide⟩ iS_X12_has g_X12_474) (fx_ac (ev_S (km138 h) ⟨by decide, by decide⟩ iS_X12_has g_X12_474) (fx_ac (ev_S (km139 h) ⟨by decide, by decide⟩ iS_X12_has g_X12_474) (fx_ac (ev_S (km140 h) ⟨by decide, by decide⟩ iS_X12_has g_X12_474) (fx_ac (ev_S (km141 h) ⟨by decide, by decide⟩ iS_X12_has g_X12_474) (fx_ac (ev_S (km142 h) ⟨by decide, by decide⟩ iS_X12_has g_X12_474) (fx_ac (ev_S (km143 h) ⟨by decide, by decide⟩ iS_X12_has g_X12_474) (fx_ac (ev_S (km144 h) ⟨by decide, by decide⟩ iS_X12_has g_X12_474) (fx_ac (ev_S (km145 h) ⟨by decide, by decide⟩ iS_X12_has g_X12_474) (fx_ac (ev_S (km146 h) ⟨by decide, by decide⟩ iS_X12_has g_X12_474) (fx_ac (ev_S (km147 h) ⟨by decide, by decide⟩ iS_X12_has g_X12_474) (fx_ac (ev_S (km148 h) ⟨by decide, by decide⟩ iS_X12_has g_X12_474) (fx_an)))))))))))))⟩ d_X12_layWithout km149_k
-- X12_has i i ('c', 8) ('c', 0)
def km150_c : fx_C := ([.inl (8, 8), .inl (0, 0)], [], [(some (.inl (0, 0)), [.inl (8, 8), .inl (0, 0)], [])], [])
def km150_a : List fx_N := []
def km150_s : List fx_D := []
def km150_x : fx_X := ([], [], [], [], [], [])
set_option maxRecDepth 100000 in
theorem km150_k : fx_chk TM 2 km150_c 3 km150_x t_X12_has km150_a km150_s 11 = true := by decide +kernel
set_option maxRecDepth 100000 in
theorem km150 {l : Launch} {E : (Nat → Prop) → State → Prop} {ad : List Nat} {D : va_G} {cy : Nat → ClassId} (h : fx_env E D classes (tys cy) nestW) : fx_Met l yX12_has (.code yX12_has cX12_has 2 (some .boolean) :: wsL_law) ({ frames := 0, cells := 0, slots := 0, locals := 0 }) E (gsM, TM, cy, fun _ => True) ad D classes km150_c :=
  fx_sound (x := km150_x) (tb := t_X12_has) (an := km150_a) (sp := km150_s) (rk := 3) 11 h (fun _ _ _ _ _ _ => trivial) (fun _ _ _ _ _ _ => trivial) (ht_tys cy) (by decide) rfl ⟨fx_an, fx_an, fx_an, fx_an, fx_an, fx_an⟩ d_X12_has km150_k
-- X12_has i i ('c', 8) ('c', 1)
def km151_c : fx_C := ([.inl (8, 8), .inl (1, 1)], [], [(some (.inl (0, 0)), [.inl (8, 8), .inl (1, 1)], [])], [])
def km151_a : List fx_N := []
def km151_s : List fx_D := []
def km151_x : fx_X := ([], [], [], [], [], [])
set_option maxRecDepth 100000 in
theorem km151_k : fx_chk TM 2 km151_c 3 km151_x t_X12_has km151_a km151_s 11 = true := by decide +kernel
set_option maxRecDepth 100000 in
theorem km151 {l : Launch} {E : (Nat → Prop) → State → Prop} {ad : List Nat} {D : va_G} {cy : Nat → ClassId} (h : fx_env E D classes (tys cy) nestW) : fx_Met l yX12_has (.code yX12_has cX12_has 2 (some .boolean) :: wsL_law) ({ frames := 0, cells := 0, slots := 0, locals := 0 }) E (gsM, TM, cy, fun _ => True) ad D classes km151_c :=
  fx_sound (x := km151_x) (tb := t_X12_has) (an := km151_a) (sp := km151_s) (rk := 3) 11 h (fun _ _ _ _ _ _ => trivial) (fun _ _ _ _ _ _ => trivial) (ht_tys cy) (by decide) rfl ⟨fx_an, fx_an, fx_an, fx_an, fx_an, fx_an⟩ d_X12_has km151_k
-- X12_has i i ('c', 8) ('c', 2)
def km152_c : fx_C := ([.inl (8, 8), .inl (2, 2)], [], [(some (.inl (0, 0)), [.inl (8, 8), .inl (2, 2)], [])], [])
def km152_a : List fx_N := []
def km152_s : List fx_D := []
def km152_x : fx_X := ([], [], [], [], [], [])
set_option maxRecDepth 100000 in
theorem km152_k : fx_chk TM 2 km152_c 3 km152_x t_X12_has km152_a km152_s 11 = true := by decide +kernel
set_option maxRecDepth 100000 in
theorem km152 {l : Launch} {E : (Nat → Prop) → State → Prop} {ad : List Nat} {D : va_G} {cy : Nat → ClassId} (h : fx_env E D classes (tys cy) nestW) : fx_Met l yX12_has (.code yX12_has cX12_has 2 (some .boolean) :: wsL_law) ({ frames := 0, cells := 0, slots := 0, locals := 0 }) E (gsM, TM, cy, fun _ => True) ad D classes km152_c :=
  fx_sound (x := km152_x) (tb := t_X12_has) (an := km152_a) (sp := km152_s) (rk := 3) 11 h (fun _ _ _ _ _ _ => trivial) (fun _ _ _ _ _ _ => trivial) (ht_tys cy) (by decide) rfl ⟨fx_an, fx_an, fx_an, fx_an, fx_an, fx_an⟩ d_X12_has km152_k
-- X12_has i i ('c', 8) ('c', 3)
def km153_c : fx_C := ([.inl (8, 8), .inl (3, 3)], [], [(some (.inl (1, 1)), [.inl (8, 8), .inl (3, 3)], [])], [])
def km153_a : List fx_N := []
def km153_s : List fx_D := []
def km153_x : fx_X := ([], [], [], [], [], [])
set_option maxRecDepth 100000 in
theorem km153_k : fx_chk TM 2 km153_c 3 km153_x t_X12_has km153_a km153_s 12 = true := by decide +kernel
set_option maxRecDepth 100000 in
theorem km153 {l : Launch} {E : (Nat → Prop) → State → Prop} {ad : List Nat} {D : va_G} {cy : Nat → ClassId} (h : fx_env E D classes (tys cy) nestW) : fx_Met l yX12_has (.code yX12_has cX12_has 2 (some .boolean) :: wsL_law) ({ frames := 0, cells := 0, slots := 0, locals := 0 }) E (gsM, TM, cy, fun _ => True) ad D classes km153_c :=
  fx_sound (x := km153_x) (tb := t_X12_has) (an := km153_a) (sp := km153_s) (rk := 3) 12 h (fun _ _ _ _ _ _ => trivial) (fun _ _ _ _ _ _ => trivial) (ht_tys cy) (by decide) rfl ⟨fx_an, fx_an, fx_an, fx_an, fx_an, fx_an⟩ d_X12_has km153_k
