-- X12_layWithout 0 i ('c', 512)
def km290_c : fx_C := ([.inr (.inr 1), .inl (512, 512)], [], [(none, [.inr (.inr 1), .inl (512, 512)], [((0, 45), .inl (0, 11))])], [(12, 45), (1000, 43)])
def km290_a : List fx_N := [(7, [(2, .inl (0, 0)), (0, .inr (.inr 1)), (1, .inl (512, 512))], [((1, 45), .inl (0, 0))], [(0, 12)], [(0, 1), (1, 2)]), (7, [(2, .inl (1, 1)), (0, .inr (.inr 1)), (1, .inl (512, 512))], [((1, 45), .inl (1, 1)), ((1, 41), .inr (.inr 43)), ((4, 12), .inl (1, 12))], [(0, 11)], [(0, 1), (1, 2)]), (7, [(2, .inl (2, 2)), (0, .inr (.inr 1)), (1, .inl (512, 512))], [((1, 45), .inl (2, 2)), ((1, 41), .inr (.inr 43)), ((4, 12), .inl (2, 12))], [(0, 10)], [(0, 1), (1, 2)]), (7, [(2, .inl (3, 3)), (0, .inr (.inr 1)), (1, .inl (512, 512))], [((1, 45), .inl (3, 3)), ((1, 41), .inr (.inr 43)), ((4, 12), .inl (3, 12))], [(0, 9)], [(0, 1), (1, 2)]), (7, [(2, .inl (4, 4)), (0, .inr (.inr 1)), (1, .inl (512, 512))], [((1, 45), .inl (4, 4)), ((1, 41), .inr (.inr 43)), ((4, 12), .inl (4, 12))], [(0, 8)], [(0, 1), (1, 2)]), (7, [(2, .inl (5, 5)), (0, .inr (.inr 1)), (1, .inl (512, 512))], [((1, 45), .inl (5, 5)), ((1, 41), .inr (.inr 43)), ((4, 12), .inl (5, 12))], [(0, 7)], [(0, 1), (1, 2)]), (7, [(2, .inl (6, 6)), (0, .inr (.inr 1)), (1, .inl (512, 512))], [((1, 45), .inl (6, 6)), ((1, 41), .inr (.inr 43)), ((4, 12), .inl (6, 12))], [(0, 6)], [(0, 1), (1, 2)]), (7, [(2, .inl (7, 7)), (0, .inr (.inr 1)), (1, .inl (512, 512))], [((1, 45), .inl (7, 7)), ((1, 41), .inr (.inr 43)), ((4, 12), .inl (7, 12))], [(0, 5)], [(0, 1), (1, 2)]), (7, [(2, .inl (8, 8)), (0, .inr (.inr 1)), (1, .inl (512, 512))], [((1, 45), .inl (8, 8)), ((1, 41), .inr (.inr 43)), ((4, 12), .inl (8, 12))], [(0, 4)], [(0, 1), (1, 2)]), (7, [(2, .inl (9, 9)), (0, .inr (.inr 1)), (1, .inl (512, 512))], [((1, 45), .inl (9, 9)), ((1, 41), .inr (.inr 43)), ((4, 12), .inl (9, 12))], [(0, 3)], [(0, 1), (1, 2)]), (7, [(2, .inl (10, 10)), (0, .inr (.inr 1)), (1, .inl (512, 512))], [((1, 45), .inl (9, 9)), ((1, 41), .inr (.inr 43)), ((4, 12), .inl (10, 12))], [(0, 2)], [(0, 1), (1, 2)]), (7, [(2, .inl (11, 11)), (0, .inr (.inr 1)), (1, .inl (512, 512))], [((1, 45), .inl (10, 10)), ((1, 41), .inr (.inr 43)), ((4, 12), .inl (11, 12))], [(0, 1)], [(0, 1), (1, 2)]), (7, [(2, .inl (12, 12)), (0, .inr (.inr 1)), (1, .inl (512, 512))], [((1, 45), .inl (11, 11)), ((1, 41), .inr (.inr 43)), ((4, 12), .inl (12, 12))], [(0, 0)], [(0, 1), (1, 2)])]
def km290_s : List fx_D := []
def km290_x : fx_X := ([], [(92, 12, 41), (95, 12, 42), (384, 12, 45)], [(384, 12, 45, 0)], [], [], [(20, 474, 1000, km278_c), (20, 474, 1000, km279_c), (20, 474, 1000, km280_c), (20, 474, 1000, km281_c), (20, 474, 1000, km282_c), (20, 474, 1000, km283_c), (20, 474, 1000, km284_c), (20, 474, 1000, km285_c), (20, 474, 1000, km286_c), (20, 474, 1000, km287_c), (20, 474, 1000, km288_c), (20, 474, 1000, km289_c)])
set_option maxRecDepth 100000 in
theorem km290_k : fx_chk TM 3 km290_c 9 km290_x t_X12_layWithout km290_a km290_s 32 = true := by decide +kernel
set_option maxRecDepth 100000 in
theorem km290 {l : Launch} {E : (Nat → Prop) → State → Prop} {ad : List Nat} {D : va_G} {cy : Nat → ClassId} (h : fx_env E D classes (tys cy) nestW) : fx_Met l yX12_layWithout (.code yX12_layWithout cX12_layWithout 3 none :: wsL_law) ({ frames := 1, cells := 0, slots := 0, locals := 21 }) E (gsM, TM, cy, fun _ => True) ad D classes km290_c :=
  fx_sound (x := km290_x) (tb := t_X12_layWithout) (an := km290_a) (sp := km290_s) (rk := 9) 32 h (fun _ _ _ _ _ _ => trivial) (fun _ _ _ _ _ _ => trivial) (ht_tys cy) (by decide) rfl ⟨fx_an, (fx_ac fl_X12_92 (fx_ac fl_X12_95 (fx_ac fl_X12_384 (fx_an)))), (fx_ac pl_X12_384 (fx_an)), fx_an, fx_an, (fx_ac (ev_S (km278 h) ⟨by decide, by decide⟩ iS_X12_has g_X12_474) (fx_ac (ev_S (km279 h) ⟨by decide, by decide⟩ iS_X12_has g_X12_474) (fx_ac (ev_S (km280 h) ⟨by decide, by decide⟩ iS_X12_has g_X12_474) (fx_ac (ev_S (km281 h) ⟨by decide, by decide⟩ iS_X12_has g_X12_474) (fx_ac (ev_S (km282 h) ⟨by decide, by decide⟩ iS_X12_has g_X12_474) (fx_ac (ev_S (km283 h) ⟨by decide, by decide⟩ iS_X12_has g_X12_474) (fx_ac (ev_S (km284 h) ⟨by decide, by decide⟩ iS_X12_has g_X12_474) (fx_ac (ev_S (km285 h) ⟨by decide, by decide⟩ iS_X12_has g_X12_474) (fx_ac (ev_S (km286 h) ⟨by decide, by decide⟩ iS_X12_has g_X12_474) (fx_ac (ev_S (km287 h) ⟨by decide, by decide⟩ iS_X12_has g_X12_474) (fx_ac (ev_S (km288 h) ⟨by decide, by decide⟩ iS_X12_has g_X12_474) (fx_ac (ev_S (km289 h) ⟨by decide, by decide⟩ iS_X12_has g_X12_474) (fx_an)))))))))))))⟩ d_X12_layWithout km290_k
-- X12_has i i ('c', 1024) ('c', 0)
def km291_c : fx_C := ([.inl (1024, 1024), .inl (0, 0)], [], [(some (.inl (0, 0)), [.inl (1024, 1024), .inl (0, 0)], [])], [])
def km291_a : List fx_N := []
def km291_s : List fx_D := []
def km291_x : fx_X := ([], [], [], [], [], [])
set_option maxRecDepth 100000 in
theorem km291_k : fx_chk TM 2 km291_c 3 km291_x t_X12_has km291_a km291_s 11 = true := by decide +kernel
set_option maxRecDepth 100000 in
theorem km291 {l : Launch} {E : (Nat → Prop) → State → Prop} {ad : List Nat} {D : va_G} {cy : Nat → ClassId} (h : fx_env E D classes (tys cy) nestW) : fx_Met l yX12_has (.code yX12_has cX12_has 2 (some .boolean) :: wsL_law) ({ frames := 0, cells := 0, slots := 0, locals := 0 }) E (gsM, TM, cy, fun _ => True) ad D classes km291_c :=
  fx_sound (x := km291_x) (tb := t_X12_has) (an := km291_a) (sp := km291_s) (rk := 3) 11 h (fun _ _ _ _ _ _ => trivial) (fun _ _ _ _ _ _ => trivial) (ht_tys cy) (by decide) rfl ⟨fx_an, fx_an, fx_an, fx_an, fx_an, fx_an⟩ d_X12_has km291_k
-- X12_has i i ('c', 1024) ('c', 1)
def km292_c : fx_C := ([.inl (1024, 1024), .inl (1, 1)], [], [(some (.inl (0, 0)), [.inl (1024, 1024), .inl (1, 1)], [])], [])
def km292_a : List fx_N := []
def km292_s : List fx_D := []
def km292_x : fx_X := ([], [], [], [], [], [])
set_option maxRecDepth 100000 in
theorem km292_k : fx_chk TM 2 km292_c 3 km292_x t_X12_has km292_a km292_s 11 = true := by decide +kernel
set_option maxRecDepth 100000 in
theorem km292 {l : Launch} {E : (Nat → Prop) → State → Prop} {ad : List Nat} {D : va_G} {cy : Nat → ClassId} (h : fx_env E D classes (tys cy) nestW) : fx_Met l yX12_has (.code yX12_has cX12_has 2 (some .boolean) :: wsL_law) ({ frames := 0, cells := 0, slots := 0, locals := 0 }) E (gsM, TM, cy, fun _ => True) ad D classes km292_c :=
  fx_sound (x := km292_x) (tb := t_X12_has) (an := km292_a) (sp := km292_s) (rk := 3) 11 h (fun _ _ _ _ _ _ => trivial) (fun _ _ _ _ _ _ => trivial) (ht_tys cy) (by decide) rfl ⟨fx_an, fx_an, fx_an, fx_an, fx_an, fx_an⟩ d_X12_has km292_k
-- X12_has i i ('c', 1024) ('c', 2)
def km293_c : fx_C := ([.inl (1024, 1024), .inl (2, 2)], [], [(some (.inl (0, 0)), [.inl (1024, 1024), .inl (2, 2)], [])], [])
def km293_a : List fx_N := []
def km293_s : List fx_D := []
def km293_x : fx_X := ([], [], [], [], [], [])
set_option maxRecDepth 100000 in
theorem km293_k : fx_chk TM 2 km293_c 3 km293_x t_X12_has km293_a km293_s 11 = true := by decide +kernel
set_option maxRecDepth 100000 in
theorem km293 {l : Launch} {E : (Nat → Prop) → State → Prop} {ad : List Nat} {D : va_G} {cy : Nat → ClassId} (h : fx_env E D classes (tys cy) nestW) : fx_Met l yX12_has (.code yX12_has cX12_has 2 (some .boolean) :: wsL_law) ({ frames := 0, cells := 0, slots := 0, locals := 0 }) E (gsM, TM, cy, fun _ => True) ad D classes km293_c :=
  fx_sound (x := km293_x) (tb := t_X12_has) (an := km293_a) (sp := km293_s) (rk := 3) 11 h (fun _ _ _ _ _ _ => trivial) (fun _ _ _ _ _ _ => trivial) (ht_tys cy) (by decide) rfl ⟨fx_an, fx_an, fx_an, fx_an, fx_an, fx_an⟩ d_X12_has km293_k
-- X12_has i i ('c', 1024) ('c', 3)
def km294_c : fx_C := ([.inl (1024, 1024), .inl (3, 3)], [], [(some (.inl (0, 0)), [.inl (1024, 1024), .inl (3, 3)], [])], [])
def km294_a : List fx_N := []
def km294_s : List fx_D := []
def km294_x : fx_X := ([], [], [], [], [], [])
set_option maxRecDepth 100000 in
theorem km294_k : fx_chk TM 2 km294_c 3 km294_x t_X12_has km294_a km294_s 11 = true := by decide +kernel
set_option maxRecDepth 100000 in
theorem km294 {l : Launch} {E : (Nat → Prop) → State → Prop} {ad : List Nat} {D : va_G} {cy : Nat → ClassId} (h : fx_env E D classes (tys cy) nestW) : fx_Met l yX12_has (.code yX12_has cX12_has 2 (some .boolean) :: wsL_law) ({ frames := 0, cells := 0, slots := 0, locals := 0 }) E (gsM, TM, cy, fun _ => True) ad D classes km294_c :=
  fx_sound (x := km294_x) (tb := t_X12_has) (an := km294_a) (sp := km294_s) (rk := 3) 11 h (fun _ _ _ _ _ _ => trivial) (fun _ _ _ _ _ _ => trivial) (ht_tys cy) (by decide) rfl ⟨fx_an, fx_an, fx_an, fx_an, fx_an, fx_an⟩ d_X12_has km294_k
-- X12_has i i ('c', 1024) ('c', 4)
def km295_c : fx_C := ([.inl (1024, 1024), .inl (4, 4)], [], [(some (.inl (0, 0)), [.inl (1024, 1024), .inl (4, 4)], [])], [])
def km295_a : List fx_N := []
def km295_s : List fx_D := []
def km295_x : fx_X := ([], [], [], [], [], [])
set_option maxRecDepth 100000 in
theorem km295_k : fx_chk TM 2 km295_c 3 km295_x t_X12_has km295_a km295_s 11 = true := by decide +kernel
set_option maxRecDepth 100000 in
theorem km295 {l : Launch} {E : (Nat → Prop) → State → Prop} {ad : List Nat} {D : va_G} {cy : Nat → ClassId} (h : fx_env E D classes (tys cy) nestW) : fx_Met l yX12_has (.code yX12_has cX12_has 2 (some .boolean) :: wsL_law) ({ frames := 0, cells := 0, slots := 0, locals := 0 }) E (gsM, TM, cy, fun _ => True) ad D classes km295_c :=
  fx_sound (x := km295_x) (tb := t_X12_has) (an := km295_a) (sp := km295_s) (rk := 3) 11 h (fun _ _ _ _ _ _ => trivial) (fun _ _ _ _ _ _ => trivial) (ht_tys cy) (by decide) rfl ⟨fx_an, fx_an, fx_an, fx_an, fx_an, fx_an⟩ d_X12_has km295_k
-- X12_has i i ('c', 1024) ('c', 5)
def km296_c : fx_C := ([.inl (1024, 1024), .inl (5, 5)], [], [(some (.inl (0, 0)), [.inl (1024, 1024), .inl (5, 5)], [])], [])
def km296_a : List fx_N := []
def km296_s : List fx_D := []
def km296_x : fx_X := ([], [], [], [], [], [])
set_option maxRecDepth 100000 in
theorem km296_k : fx_chk TM 2 km296_c 3 km296_x t_X12_has km296_a km296_s 11 = true := by decide +kernel
set_option maxRecDepth 100000 in
theorem km296 {l : Launch} {E : (Nat → Prop) → State → Prop} {ad : List Nat} {D : va_G} {cy : Nat → ClassId} (h : fx_env E D classes (tys cy) nestW) : fx_Met l yX12_has (.code yX12_has cX12_has 2 (some .boolean) :: wsL_law) ({ frames := 0, cells := 0, slots := 0, locals := 0 }) E (gsM, TM, cy, fun _ => True) ad D classes km296_c :=
  fx_sound (x := km296_x) (tb := t_X12_has) (an := km296_a) (sp := km296_s) (rk := 3) 11 h (fun _ _ _ _ _ _ => trivial) (fun _ _ _ _ _ _ => trivial) (ht_tys cy) (by decide) rfl ⟨fx_an, fx_an, fx_an, fx_an, fx_an, fx_an⟩ d_X12_has km296_k
-- X12_has i i ('c', 1024) ('c', 6)
def km297_c : fx_C := ([.inl (1024, 1024), .inl (6, 6)], [], [(some (.inl (0, 0)), [.inl (1024, 1024), .inl (6, 6)], [])], [])
def km297_a : List fx_N := []
def km297_s : List fx_D := []
def km297_x : fx_X := ([], [], [], [], [], [])
set_option maxRecDepth 100000 in
theorem km297_k : fx_chk TM 2 km297_c 3 km297_x t_X12_has km297_a km297_s 11 = true := by decide +kernel
set_option maxRecDepth 100000 in
theorem km297 {l : Launch} {E : (Nat → Prop) → State → Prop} {ad : List Nat} {D : va_G} {cy : Nat → ClassId} (h : fx_env E D classes (tys cy) nestW) : fx_Met l yX12_has (.code yX12_has cX12_has 2 (some .boolean) :: wsL_law) ({ frames := 0, cells := 0, slots := 0, locals := 0 }) E (gsM, TM, cy, fun _ => True) ad D classes km297_c :=
  fx_sound (x := km297_x) (tb := t_X12_has) (an := km297_a) (sp := km297_s) (rk := 3) 11 h (fun _ _ _ _ _ _ => trivial) (fun _ _ _ _ _ _ => trivial) (ht_tys cy) (by decide) rfl ⟨fx_an, fx_an, fx_an, fx_an, fx_an, fx_an⟩ d_X12_has km297_k
-- X12_has i i ('c', 1024) ('c', 7)
def km298_c : fx_C := ([.inl (1024, 1024), .inl (7, 7)], [], [(some (.inl (0, 0)), [.inl (1024, 1024), .inl (7, 7)], [])], [])
def km298_a : List fx_N := []
def km298_s : List fx_D := []
def km298_x : fx_X := ([], [], [], [], [], [])
set_option maxRecDepth 100000 in
theorem km298_k : fx_chk TM 2 km298_c 3 km298_x t_X12_has km298_a km298_s 11 = true := by decide +kernel
set_option maxRecDepth 100000 in
theorem km298 {l : Launch} {E : (Nat → Prop) → State → Prop} {ad : List Nat} {D : va_G} {cy : Nat → ClassId} (h : fx_env E D classes (tys cy) nestW) : fx_Met l yX12_has (.code yX12_has cX12_has 2 (some .boolean) :: wsL_law) ({ frames := 0, cells := 0, slots := 0, locals := 0 }) E (gsM, TM, cy, fun _ => True) ad D classes km298_c :=
  fx_sound (x := km298_x) (tb := t_X12_has) (an := km298_a) (sp := km298_s) (rk := 3) 11 h (fun _ _ _ _ _ _ => trivial) (fun _ _ _ _ _ _ => trivial) (ht_tys cy) (by decide) rfl ⟨fx_an, fx_an, fx_an, fx_an, fx_an, fx_an⟩ d_X12_has km298_k
-- X12_has i i ('c', 1024) ('c', 8)
def km299_c : fx_C := ([.inl (1024, 1024), .inl (8, 8)], [], [(some (.inl (0, 0)), [.inl (1024, 1024), .inl (8, 8)], [])], [])
def km299_a : List fx_N := []
def km299_s : List fx_D := []
def km299_x : fx_X := ([], [], [], [], [], [])
set_option maxRecDepth 100000 in
theorem km299_k : fx_chk TM 2 km299_c 3 km299_x t_X12_has km299_a km299_s 11 = true := by decide +kernel
set_option maxRecDepth 100000 in
theorem km299 {l : Launch} {E : (Nat → Prop) → State → Prop} {ad : List Nat} {D : va_G} {cy : Nat → ClassId} (h : fx_env E D classes (tys cy) nestW) : fx_Met l yX12_has (.code yX12_has cX12_has 2 (some .boolean) :: wsL_law) ({ frames := 0, cells := 0, slots := 0, locals := 0 }) E (gsM, TM, cy, fun _ => True) ad D classes km299_c :=
  fx_sound (x := km299_x) (tb := t_X12_has) (an := km299_a) (sp := km299_s) (rk := 3) 11 h (fun _ _ _ _ _ _ => trivial) (fun _ _ _ _ _ _ => trivial) (ht_tys cy) (by decide) rfl ⟨fx_an, fx_an, fx_an, fx_an, fx_an, fx_an⟩ d_X12_has km299_k
-- X12_has i i ('c', 1024) ('c', 9)
def km300_c : fx_C := ([.inl (1024, 1024), .inl (9, 9)], [], [(some (.inl (0, 0)), [.inl (1024, 1024), .inl (9, 9)], [])], [])
def km300_a : List fx_N := []
def km300_s : List fx_D := []
def km300_x : fx_X := ([], [], [], [], [], [])
set_option maxRecDepth 100000 in
theorem km300_k : fx_chk TM 2 km300_c 3 km300_x t_X12_has km300_a km300_s 11 = true := by decide +kernel
set_option maxRecDepth 100000 in
theorem km300 {l : Launch} {E : (Nat → Prop) → State → Prop} {ad : List Nat} {D : va_G} {cy : Nat → ClassId} (h : fx_env E D classes (tys cy) nestW) : fx_Met l yX12_has (.code yX12_has cX12_has 2 (some .boolean) :: wsL_law) ({ frames := 0, cells := 0, slots := 0, locals := 0 }) E (gsM, TM, cy, fun _ => True) ad D classes km300_c :=
  fx_sound (x := km300_x) (tb := t_X12_has) (an := km300_a) (sp := km300_s) (rk := 3) 11 h (fun _ _ _ _ _ _ => trivial) (fun _ _ _ _ _ _ => trivial) (ht_tys cy) (by decide) rfl ⟨fx_an, fx_an, fx_an, fx_an, fx_an, fx_an⟩ d_X12_has km300_k
-- X12_has i i ('c', 1024) ('c', 10)
def km301_c : fx_C := ([.inl (1024, 1024), .inl (10, 10)], [], [(some (.inl (1, 1)), [.inl (1024, 1024), .inl (10, 10)], [])], [])
def km301_a : List fx_N := []
def km301_s : List fx_D := []
def km301_x : fx_X := ([], [], [], [], [], [])
set_option maxRecDepth 100000 in
theorem km301_k : fx_chk TM 2 km301_c 3 km301_x t_X12_has km301_a km301_s 12 = true := by decide +kernel
set_option maxRecDepth 100000 in
theorem km301 {l : Launch} {E : (Nat → Prop) → State → Prop} {ad : List Nat} {D : va_G} {cy : Nat → ClassId} (h : fx_env E D classes (tys cy) nestW) : fx_Met l yX12_has (.code yX12_has cX12_has 2 (some .boolean) :: wsL_law) ({ frames := 0, cells := 0, slots := 0, locals := 0 }) E (gsM, TM, cy, fun _ => True) ad D classes km301_c :=
  fx_sound (x := km301_x) (tb := t_X12_has) (an := km301_a) (sp := km301_s) (rk := 3) 12 h (fun _ _ _ _ _ _ => trivial) (fun _ _ _ _ _ _ => trivial) (ht_tys cy) (by decide) rfl ⟨fx_an, fx_an, fx_an, fx_an, fx_an, fx_an⟩ d_X12_has km301_k
-- X12_has i i ('c', 1024) ('c', 11)
def km302_c : fx_C := ([.inl (1024, 1024), .inl (11, 11)], [], [(some (.inl (0, 0)), [.inl (1024, 1024), .inl (11, 11)], [])], [])
def km302_a : List fx_N := []
def km302_s : List fx_D := []
def km302_x : fx_X := ([], [], [], [], [], [])
set_option maxRecDepth 100000 in
theorem km302_k : fx_chk TM 2 km302_c 3 km302_x t_X12_has km302_a km302_s 11 = true := by decide +kernel
set_option maxRecDepth 100000 in
theorem km302 {l : Launch} {E : (Nat → Prop) → State → Prop} {ad : List Nat} {D : va_G} {cy : Nat → ClassId} (h : fx_env E D classes (tys cy) nestW) : fx_Met l yX12_has (.code yX12_has cX12_has 2 (some .boolean) :: wsL_law) ({ frames := 0, cells := 0, slots := 0, locals := 0 }) E (gsM, TM, cy, fun _ => True) ad D classes km302_c :=
  fx_sound (x := km302_x) (tb := t_X12_has) (an := km302_a) (sp := km302_s) (rk := 3) 11 h (fun _ _ _ _ _ _ => trivial) (fun _ _ _ _ _ _ => trivial) (ht_tys cy) (by decide) rfl ⟨fx_an, fx_an, fx_an, fx_an, fx_an, fx_an⟩ d_X12_has km302_k
-- X12_layWithout 0 i ('c', 1024)
def km303_c : fx_C := ([.inr (.inr 1), .inl (1024, 1024)], [], [(none, [.inr (.inr 1), .inl (1024, 1024)], [((0, 45), .inl (0, 11))])], [(12, 45), (1000, 43)])
def km303_a : List fx_N := [(7, [(2, .inl (0, 0)), (0, .inr (.inr 1)), (1, .inl (1024, 1024))], [((1, 45), .inl (0, 0))], [(0, 12)], [(0, 1), (1, 2)]), (7, [(2, .inl (1, 1)), (0, .inr (.inr 1)), (1, .inl (1024, 1024))], [((1, 45), .inl (1, 1)), ((1, 41), .inr (.inr 43)), ((4, 12), .inl (1, 12))], [(0, 11)], [(0, 1), (1, 2)]), (7, [(2, .inl (2, 2)), (0, .inr (.inr 1)), (1, .inl (1024, 1024))], [((1, 45), .inl (2, 2)), ((1, 41), .inr (.inr 43)), ((4, 12), .inl (2, 12))], [(0, 10)], [(0, 1), (1, 2)]), (7, [(2, .inl (3, 3)), (0, .inr (.inr 1)), (1, .inl (1024, 1024))], [((1, 45), .inl (3, 3)), ((1, 41), .inr (.inr 43)), ((4, 12), .inl (3, 12))], [(0, 9)], [(0, 1), (1, 2)]), (7, [(2, .inl (4, 4)), (0, .inr (.inr 1)), (1, .inl (1024, 1024))], [((1, 45), .inl (4, 4)), ((1, 41), .inr (.inr 43)), ((4, 12), .inl (4, 12))], [(0, 8)], [(0, 1), (1, 2)]), (7, [(2, .inl (5, 5)), (0, .inr (.inr 1)), (1, .inl (1024, 1024))], [((1, 45), .inl (5, 5)), ((1, 41), .inr (.inr 43)), ((4, 12), .inl (5, 12))], [(0, 7)], [(0, 1), (1, 2)]), (7, [(2, .inl (6, 6)), (0, .inr (.inr 1)), (1, .inl (1024, 1024))], [((1, 45), .inl (6, 6)), ((1, 41), .inr (.inr 43)), ((4, 12), .inl (6, 12))], [(0, 6)], [(0, 1), (1, 2)]), (7, [(2, .inl (7, 7)), (0, .inr (.inr 1)), (1, .inl (1024, 1024))], [((1, 45), .inl (7, 7)), ((1, 41), .inr (.inr 43)), ((4, 12), .inl (7, 12))], [(0, 5)], [(0, 1), (1, 2)]), (7, [(2, .inl (8, 8)), (0, .inr (.inr 1)), (1, .inl (1024, 1024))], [((1, 45), .inl (8, 8)), ((1, 41), .inr (.inr 43)), ((4, 12), .inl (8, 12))], [(0, 4)], [(0, 1), (1, 2)]), (7, [(2, .inl (9, 9)), (0, .inr (.inr 1)), (1, .inl (1024, 1024))], [((1, 45), .inl (9, 9)), ((1, 41), .inr (.inr 43)), ((4, 12), .inl (9, 12))], [(0, 3)], [(0, 1), (1, 2)]), (7, [(2, .inl (10, 10)), (0, .inr (.inr 1)), (1, .inl (1024, 1024))], [((1, 45), .inl (10, 10)), ((1, 41), .inr (.inr 43)), ((4, 12), .inl (10, 12))], [(0, 2)], [(0, 1), (1, 2)]), (7, [(2, .inl (11, 11)), (0, .inr (.inr 1)), (1, .inl (1024, 1024))], [((1, 45), .inl (10, 10)), ((1, 41), .inr (.inr 43)), ((4, 12), .inl (11, 12))], [(0, 1)], [(0, 1), (1, 2)]), (7, [(2, .inl (12, 12)), (0, .inr (.inr 1)), (1, .inl (1024, 1024))], [((1, 45), .inl (11, 11)), ((1, 41), .inr (.inr 43)), ((4, 12), .inl (12, 12))], [(0, 0)], [(0, 1), (1, 2)])]
def km303_s : List fx_D := []
def km303_x : fx_X := ([], [(92, 12, 41), (95, 12, 42), (384, 12, 45)], [(384, 12, 45, 0)], [], [], [(20, 474, 1000, km291_c), (20, 474, 1000, km292_c), (20, 474, 1000, km293_c), (20, 474, 1000, km294_c), (20, 474, 1000, km295_c), (20, 474, 1000, km296_c), (20, 474, 1000, km297_c), (20, 474, 1000, km298_c), (20, 474, 1000, km299_c), (20, 474, 1000, km300_c), (20, 474, 1000, km301_c), (20, 474, 1000, km302_c)])
set_option maxRecDepth 100000 in
theorem km303_k : fx_chk TM 3 km303_c 9 km303_x t_X12_layWithout km303_a km303_s 32 = true := by decide +kernel
set_option maxRecDepth 100000 in
theorem km303 {l : Launch} {E : (Nat → Prop) → State → Prop} {ad : List Nat} {D : va_G} {cy : Nat → ClassId} (h : fx_env E D classes (tys cy) nestW) : fx_Met l yX12_layWithout (.code yX12_layWithout cX12_layWithout 3 none :: wsL_law) ({ frames := 1, cells := 0, slots := 0, locals := 21 }) E (gsM, TM, cy, fun _ => True) ad D classes km303_c :=
  fx_sound (x := km303_x) (tb := t_X12_layWithout) (an := km303_a) (sp := km303_s) (rk := 9) 32 h (fun _ _ _ _ _ _ => trivial) (fun _ _ _ _ _ _ => trivial) (ht_tys cy) (by decide) rfl ⟨fx_an, (fx_ac fl_X12_92 (fx_ac fl_X12_95 (fx_ac fl_X12_384 (fx_an)))), (fx_ac pl_X12_384 (fx_an)), fx_an, fx_an, (fx_ac (ev_S (km291 h) ⟨by decide, by decide⟩ iS_X12_has g_X12_474) (fx_ac (ev_S (km292 h) ⟨by decide, by decide⟩ iS_X12_has g_X12_474) (fx_ac (ev_S (km293 h) ⟨by decide, by decide⟩ iS_X12_has g_X12_474) (fx_ac (ev_S (km294 h) ⟨by decide, by decide⟩ iS_X12_has g_X12_474) (fx_ac (ev_S (km295 h) ⟨by decide, by decide⟩ iS_X12_has g_X12_474) (fx_ac (ev_S (km296 h) ⟨by decide, by decide⟩ iS_X12_has g_X12_474) (fx_ac (ev_S (km297 h) ⟨by decide, by decide⟩ iS_X12_has g_X12_474) (fx_ac (ev_S (km298 h) ⟨by decide, by decide⟩ iS_X12_has g_X12_474) (fx_ac (ev_S (km299 h) ⟨by decide, by decide⟩ iS_X12_has g_X12_474) (fx_ac (ev_S (km300 h) ⟨by decide, by decide⟩ iS_X12_has g_X12_474) (fx_ac (ev_S (km301 h) ⟨by decide, by decide⟩ iS_X12_has g_X12_474) (fx_ac (ev_S (km302 h) ⟨by decide, by decide⟩ iS_X12_has g_X12_474) (fx_an)))))))))))))⟩ d_X12_layWithout km303_k
-- X12_has i i ('c', 2048) ('c', 0)
def km304_c : fx_C := ([.inl (2048, 2048), .inl (0, 0)], [], [(some (.inl (0, 0)), [.inl (2048, 2048), .inl (0, 0)], [])], [])
def km304_a : List fx_N := []
def km304_s : List fx_D := []
def km304_x : fx_X := ([], [], [], [], [], [])
set_option maxRecDepth 100000 in
theorem km304_k : fx_chk TM 2 km304_c 3 km304_x t_X12_has km304_a km304_s 11 = true := by decide +kernel
set_option maxRecDepth 100000 in
theorem km304 {l : Launch} {E : (Nat → Prop) → State → Prop} {ad : List Nat} {D : va_G} {cy : Nat → ClassId} (h : fx_env E D classes (tys cy) nestW) : fx_Met l yX12_has (.code yX12_has cX12_has 2 (some .boolean) :: wsL_law) ({ frames := 0, cells := 0, slots := 0, locals := 0 }) E (gsM, TM, cy, fun _ => True) ad D classes km304_c :=
  fx_sound (x := km304_x) (tb := t_X12_has) (an := km304_a) (sp := km304_s) (rk := 3) 11 h (fun _ _ _ _ _ _ => trivial) (fun _ _ _ _ _ _ => trivial) (ht_tys cy) (by decide) rfl ⟨fx_an, fx_an, fx_an, fx_an, fx_an, fx_an⟩ d_X12_has km304_k
-- X12_has i i ('c', 2048) ('c', 1)
def km305_c : fx_C := ([.inl (2048, 2048), .inl (1, 1)], [], [(some (.inl (0, 0)), [.inl (2048, 2048), .inl (1, 1)], [])], [])
def km305_a : List fx_N := []
def km305_s : List fx_D := []
def km305_x : fx_X := ([], [], [], [], [], [])
set_option maxRecDepth 100000 in
theorem km305_k : fx_chk TM 2 km305_c 3 km305_x t_X12_has km305_a km305_s 11 = true := by decide +kernel
set_option maxRecDepth 100000 in
theorem km305 {l : Launch} {E : (Nat → Prop) → State → Prop} {ad : List Nat} {D : va_G} {cy : Nat → ClassId} (h : fx_env E D classes (tys cy) nestW) : fx_Met l yX12_has (.code yX12_has cX12_has 2 (some .boolean) :: wsL_law) ({ frames := 0, cells := 0, slots := 0, locals := 0 }) E (gsM, TM, cy, fun _ => True) ad D classes km305_c :=
  fx_sound (x := km305_x) (tb := t_X12_has) (an := km305_a) (sp := km305_s) (rk := 3) 11 h (fun _ _ _ _ _ _ => trivial) (fun _ _ _ _ _ _ => trivial) (ht_tys cy) (by decide) rfl ⟨fx_an, fx_an, fx_an, fx_an, fx_an, fx_an⟩ d_X12_has km305_k
-- X12_has i i ('c', 2048) ('c', 2)
def km306_c : fx_C := ([.inl (2048, 2048), .inl (2, 2)], [], [(some (.inl (0, 0)), [.inl (2048, 2048), .inl (2, 2)], [])], [])
def km306_a : List fx_N := []
def km306_s : List fx_D := []
def km306_x : fx_X := ([], [], [], [], [], [])
set_option maxRecDepth 100000 in
theorem km306_k : fx_chk TM 2 km306_c 3 km306_x t_X12_has km306_a km306_s 11 = true := by decide +kernel
set_option maxRecDepth 100000 in
theorem km306 {l : Launch} {E : (Nat → Prop) → State → Prop} {ad : List Nat} {D : va_G} {cy : Nat → ClassId} (h : fx_env E D classes (tys cy) nestW) : fx_Met l yX12_has (.code yX12_has cX12_has 2 (some .boolean) :: wsL_law) ({ frames := 0, cells := 0, slots := 0, locals := 0 }) E (gsM, TM, cy, fun _ => True) ad D classes km306_c :=
  fx_sound (x := km306_x) (tb := t_X12_has) (an := km306_a) (sp := km306_s) (rk := 3) 11 h (fun _ _ _ _ _ _ => trivial) (fun _ _ _ _ _ _ => trivial) (ht_tys cy) (by decide) rfl ⟨fx_an, fx_an, fx_an, fx_an, fx_an, fx_an⟩ d_X12_has km306_k
-- X12_has i i ('c', 2048) ('c', 3)
def km307_c : fx_C := ([.inl (2048, 2048), .inl (3, 3)], [], [(some (.inl (0, 0)), [.inl (2048, 2048), .inl (3, 3)], [])], [])
def km307_a : List fx_N := []
def km307_s : List fx_D := []
def km307_x : fx_X := ([], [], [], [], [], [])
set_option maxRecDepth 100000 in
theorem km307_k : fx_chk TM 2 km307_c 3 km307_x t_X12_has km307_a km307_s 11 = true := by decide +kernel
set_option maxRecDepth 100000 in
theorem km307 {l : Launch} {E : (Nat → Prop) → State → Prop} {ad : List Nat} {D : va_G} {cy : Nat → ClassId} (h : fx_env E D classes (tys cy) nestW) : fx_Met l yX12_has (.code yX12_has cX12_has 2 (some .boolean) :: wsL_law) ({ frames := 0, cells := 0, slots := 0, locals := 0 }) E (gsM, TM, cy, fun _ => True) ad D classes km307_c :=
  fx_sound (x := km307_x) (tb := t_X12_has) (an := km307_a) (sp := km307_s) (rk := 3) 11 h (fun _ _ _ _ _ _ => trivial) (fun _ _ _ _ _ _ => trivial) (ht_tys cy) (by decide) rfl ⟨fx_an, fx_an, fx_an, fx_an, fx_an, fx_an⟩ d_X12_has km307_k
-- X12_has i i ('c', 2048) ('c', 4)
def km308_c : fx_C := ([.inl (2048, 2048), .inl (4, 4)], [], [(some (.inl (0, 0)), [.inl (2048, 2048), .inl (4, 4)], [])], [])
def km308_a : List fx_N := []
def km308_s : List fx_D := []
def km308_x : fx_X := ([], [], [], [], [], [])
set_option maxRecDepth 100000 in
theorem km308_k : fx_chk TM 2 km308_c 3 km308_x t_X12_has km308_a km308_s 11 = true := by decide +kernel
set_option maxRecDepth 100000 in
theorem km308 {l : Launch} {E : (Nat → Prop) → State → Prop} {ad : List Nat} {D : va_G} {cy : Nat → ClassId} (h : fx_env E D classes (tys cy) nestW) : fx_Met l yX12_has (.code yX12_has cX12_has 2 (some .boolean) :: wsL_law) ({ frames := 0, cells := 0, slots := 0, locals := 0 }) E (gsM, TM, cy, fun _ => True) ad D classes km308_c :=
  fx_sound (x := km308_x) (tb := t_X12_has) (an := km308_a) (sp := km308_s) (rk := 3) 11 h (fun _ _ _ _ _ _ => trivial) (fun _ _ _ _ _ _ => trivial) (ht_tys cy) (by decide) rfl ⟨fx_an, fx_an, fx_an, fx_an, fx_an, fx_an⟩ d_X12_has km308_k
-- X12_has i i ('c', 2048) ('c', 5)
def km309_c : fx_C := ([.inl (2048, 2048), .inl (5, 5)], [], [(some (.inl (0, 0)), [.inl (2048, 2048), .inl (5, 5)], [])], [])
def km309_a : List fx_N := []
def km309_s : List fx_D := []
def km309_x : fx_X := ([], [], [], [], [], [])
set_option maxRecDepth 100000 in
theorem km309_k : fx_chk TM 2 km309_c 3 km309_x t_X12_has km309_a km309_s 11 = true := by decide +kernel
set_option maxRecDepth 100000 in
theorem km309 {l : Launch} {E : (Nat → Prop) → State → Prop} {ad : List Nat} {D : va_G} {cy : Nat → ClassId} (h : fx_env E D classes (tys cy) nestW) : fx_Met l yX12_has (.code yX12_has cX12_has 2 (some .boolean) :: wsL_law) ({ frames := 0, cells := 0, slots := 0, locals := 0 }) E (gsM, TM, cy, fun _ => True) ad D classes km309_c :=
  fx_sound (x := km309_x) (tb := t_X12_has) (an := km309_a) (sp := km309_s) (rk := 3) 11 h (fun _ _ _ _ _ _ => trivial) (fun _ _ _ _ _ _ => trivial) (ht_tys cy) (by decide) rfl ⟨fx_an, fx_an, fx_an, fx_an, fx_an, fx_an⟩ d_X12_has km309_k
-- X12_has i i ('c', 2048) ('c', 6)
def km310_c : fx_C := ([.inl (2048, 2048), .inl (6, 6)], [], [(some (.inl (0, 0)), [.inl (2048, 2048), .inl (6, 6)], [])], [])
def km310_a : List fx_N := []
def km310_s : List fx_D := []
def km310_x : fx_X := ([], [], [], [], [], [])
set_option maxRecDepth 100000 in
theorem km310_k : fx_chk TM 2 km310_c 3 km310_x t_X12_has km310_a km310_s 11 = true := by decide +kernel
set_option maxRecDepth 100000 in
theorem km310 {l : Launch} {E : (Nat → Prop) → State → Prop} {ad : List Nat} {D : va_G} {cy : Nat → ClassId} (h : fx_env E D classes (tys cy) nestW) : fx_Met l yX12_has (.code yX12_has cX12_has 2 (some .boolean) :: wsL_law) ({ frames := 0, cells := 0, slots := 0, locals := 0 }) E (gsM, TM, cy, fun _ => True) ad D classes km310_c :=
  fx_sound (x := km310_x) (tb := t_X12_has) (an := km310_a) (sp := km310_s) (rk := 3) 11 h (fun _ _ _ _ _ _ => trivial) (fun _ _ _ _ _ _ => trivial) (ht_tys cy) (by decide) rfl ⟨fx_an, fx_an, fx_an, fx_an, fx_an, fx_an⟩ d_X12_has km310_k
-- X12_has i i ('c', 2048) ('c', 7)
def km311_c : fx_C := ([.inl (2048, 2048), .inl (7, 7)], [], [(some (.inl (0, 0)), [.inl (2048, 2048), .inl (7, 7)], [])], [])
def km311_a : List fx_N := []
def km311_s : List fx_D := []
def km311_x : fx_X := ([], [], [], [], [], [])
set_option maxRecDepth 100000 in
theorem km311_k : fx_chk TM 2 km311_c 3 km311_x t_X12_has km311_a km311_s 11 = true := by decide +kernel
set_option maxRecDepth 100000 in
theorem km311 {l : Launch} {E : (Nat → Prop) → State → Prop} {ad : List Nat} {D : va_G} {cy : Nat → ClassId} (h : fx_env E D classes (tys cy) nestW) : fx_Met l yX12_has (.code yX12_has cX12_has 2 (some .boolean) :: wsL_law) ({ frames := 0, cells := 0, slots := 0, locals := 0 }) E (gsM, TM, cy, fun _ => True) ad D classes km311_c :=
  fx_sound (x := km311_x) (tb := t_X12_has) (an := km311_a) (sp := km311_s) (rk := 3) 11 h (fun _ _ _ _ _ _ => trivial) (fun _ _ _ _ _ _ => trivial) (ht_tys cy) (by decide) rfl ⟨fx_an, fx_an, fx_an, fx_an, fx_an, fx_an⟩ d_X12_has km311_k
-- X12_has i i ('c', 2048) ('c', 8)
def km312_c : fx_C := ([.inl (2048, 2048), .inl (8, 8)], [], [(some (.inl (0, 0)), [.inl (2048, 2048), .inl (8, 8)], [])], [])
def km312_a : List fx_N := []
def km312_s : List fx_D := []
def km312_x : fx_X := ([], [], [], [], [], [])
set_option maxRecDepth 100000 in
theorem km312_k : fx_chk TM 2 km312_c 3 km312_x t_X12_has km312_a km312_s 11 = true := by decide +kernel
set_option maxRecDepth 100000 in
theorem km312 {l : Launch} {E : (Nat → Prop) → State → Prop} {ad : List Nat} {D : va_G} {cy : Nat → ClassId} (h : fx_env E D classes (tys cy) nestW) : fx_Met l yX12_has (.code yX12_has cX12_has 2 (some .boolean) :: wsL_law) ({ frames := 0, cells := 0, slots := 0, locals := 0 }) E (gsM, TM, cy, fun _ => True) ad D classes km312_c :=
  fx_sound (x := km312_x) (tb := t_X12_has) (an := km312_a) (sp := km312_s) (rk := 3) 11 h (fun _ _ _ _ _ _ => trivial) (fun _ _ _ _ _ _ => trivial) (ht_tys cy) (by decide) rfl ⟨fx_an, fx_an, fx_an, fx_an, fx_an, fx_an⟩ d_X12_has km312_k
-- X12_has i i ('c', 2048) ('c', 9)
def km313_c : fx_C := ([.inl (2048, 2048), .inl (9, 9)], [], [(some (.inl (0, 0)), [.inl (2048, 2048), .inl (9, 9)], [])], [])
def km313_a : List fx_N := []
def km313_s : List fx_D := []
def km313_x : fx_X := ([], [], [], [], [], [])
set_option maxRecDepth 100000 in
theorem km313_k : fx_chk TM 2 km313_c 3 km313_x t_X12_has km313_a km313_s 11 = true := by decide +kernel
set_option maxRecDepth 100000 in
theorem km313 {l : Launch} {E : (Nat → Prop) → State → Prop} {ad : List Nat} {D : va_G} {cy : Nat → ClassId} (h : fx_env E D classes (tys cy) nestW) : fx_Met l yX12_has (.code yX12_has cX12_has 2 (some .boolean) :: wsL_law) ({ frames := 0, cells := 0, slots := 0, locals := 0 }) E (gsM, TM, cy, fun _ => True) ad D classes km313_c :=
  fx_sound (x := km313_x) (tb := t_X12_has) (an := km313_a) (sp := km313_s) (rk := 3) 11 h (fun _ _ _ _ _ _ => trivial) (fun _ _ _ _ _ _ => trivial) (ht_tys cy) (by decide) rfl ⟨fx_an, fx_an, fx_an, fx_an, fx_an, fx_an⟩ d_X12_has km313_k
-- X12_has i i ('c', 2048) ('c', 10)
def km314_c : fx_C := ([.inl (2048, 2048), .inl (10, 10)], [], [(some (.inl (0, 0)), [.inl (2048, 2048), .inl (10, 10)], [])], [])
def km314_a : List fx_N := []
def km314_s : List fx_D := []
def km314_x : fx_X := ([], [], [], [], [], [])
set_option maxRecDepth 100000 in
theorem km314_k : fx_chk TM 2 km314_c 3 km314_x t_X12_has km314_a km314_s 11 = true := by decide +kernel
set_option maxRecDepth 100000 in
theorem km314 {l : Launch} {E : (Nat → Prop) → State → Prop} {ad : List Nat} {D : va_G} {cy : Nat → ClassId} (h : fx_env E D classes (tys cy) nestW) : fx_Met l yX12_has (.code yX12_has cX12_has 2 (some .boolean) :: wsL_law) ({ frames := 0, cells := 0, slots := 0, locals := 0 }) E (gsM, TM, cy, fun _ => True) ad D classes km314_c :=
  fx_sound (x := km314_x) (tb := t_X12_has) (an := km314_a) (sp := km314_s) (rk := 3) 11 h (fun _ _ _ _ _ _ => trivial) (fun _ _ _ _ _ _ => trivial) (ht_tys cy) (by decide) rfl ⟨fx_an, fx_an, fx_an, fx_an, fx_an, fx_an⟩ d_X12_has km314_k
-- X12_has i i ('c', 2048) ('c', 11)
def km315_c : fx_C := ([.inl (2048, 2048), .inl (11, 11)], [], [(some (.inl (1, 1)), [.inl (2048, 2048), .inl (11, 11)], [])], [])
def km315_a : List fx_N := []
def km315_s : List fx_D := []
def km315_x : fx_X := ([], [], [], [], [], [])
set_option maxRecDepth 100000 in
theorem km315_k : fx_chk TM 2 km315_c 3 km315_x t_X12_has km315_a km315_s 12 = true := by decide +kernel
set_option maxRecDepth 100000 in
theorem km315 {l : Launch} {E : (Nat → Prop) → State → Prop} {ad : List Nat} {D : va_G} {cy : Nat → ClassId} (h : fx_env E D classes (tys cy) nestW) : fx_Met l yX12_has (.code yX12_has cX12_has 2 (some .boolean) :: wsL_law) ({ frames := 0, cells := 0, slots := 0, locals := 0 }) E (gsM, TM, cy, fun _ => True) ad D classes km315_c :=
  fx_sound (x := km315_x) (tb := t_X12_has) (an := km315_a) (sp := km315_s) (rk := 3) 12 h (fun _ _ _ _ _ _ => trivial) (fun _ _ _ _ _ _ => trivial) (ht_tys cy) (by decide) rfl ⟨fx_an, fx_an, fx_an, fx_an, fx_an, fx_an⟩ d_X12_has km315_k
-- X12_layWithout 0 i ('c', 2048)
def km316_c : fx_C := ([.inr (.inr 1), .inl (2048, 2048)], [], [(none, [.inr (.inr 1), .inl (2048, 2048)], [((0, 45), .inl (0, 11))])], [(12, 45), (1000, 43)])
def km316_a : List fx_N := [(7, [(2, .inl (0, 0)), (0, .inr (.inr 1)), (1, .inl (2048, 2048))], [((1, 45), .inl (0, 0))], [(0, 12)], [(0, 1), (1, 2)]), (7, [(2, .inl (1, 1)), (0, .inr (.inr 1)), (1, .inl (2048, 2048))], [((1, 45), .inl (1, 1)), ((1, 41), .inr (.inr 43)), ((4, 12), .inl (1, 12))], [(0, 11)], [(0, 1), (1, 2)]), (7, [(2, .inl (2, 2)), (0, .inr (.inr 1)), (1, .inl (2048, 2048))], [((1, 45), .inl (2, 2)), ((1, 41), .inr (.inr 43)), ((4, 12), .inl (2, 12))], [(0, 10)], [(0, 1), (1, 2)]), (7, [(2, .inl (3, 3)), (0, .inr (.inr 1)), (1, .inl (2048, 2048))], [((1, 45), .inl (3, 3)), ((1, 41), .inr (.inr 43)), ((4, 12), .inl (3, 12))], [(0, 9)], [(0, 1), (1, 2)]), (7, [(2, .inl (4, 4)), (0, .inr (.inr 1)), (1, .inl (2048, 2048))], [((1, 45), .inl (4, 4)), ((1, 41), .inr (.inr 43)), ((4, 12), .inl (4, 12))], [(0, 8)], [(0, 1), (1, 2)]), (7, [(2, .inl (5, 5)), (0, .inr (.inr 1)), (1, .inl (2048, 2048))], [((1, 45), .inl (5, 5)), ((1, 41), .inr (.inr 43)), ((4, 12), .inl (5, 12))], [(0, 7)], [(0, 1), (1, 2)]), (7, [(2, .inl (6, 6)), (0, .inr (.inr 1)), (1, .inl (2048, 2048))], [((1, 45), .inl (6, 6)), ((1, 41), .inr (.inr 43)), ((4, 12), .inl (6, 12))], [(0, 6)], [(0, 1), (1, 2)]), (7, [(2, .inl (7, 7)), (0, .inr (.inr 1)), (1, .inl (2048, 2048))], [((1, 45), .inl (7, 7)), ((1, 41), .inr (.inr 43)), ((4, 12), .inl (7, 12))], [(0, 5)], [(0, 1), (1, 2)]), (7, [(2, .inl (8, 8)), (0, .inr (.inr 1)), (1, .inl (2048, 2048))], [((1, 45), .inl (8, 8)), ((1, 41), .inr (.inr 43)), ((4, 12), .inl (8, 12))], [(0, 4)], [(0, 1), (1, 2)]), (7, [(2, .inl (9, 9)), (0, .inr (.inr 1)), (1, .inl (2048, 2048))], [((1, 45), .inl (9, 9)), ((1, 41), .inr (.inr 43)), ((4, 12), .inl (9, 12))], [(0, 3)], [(0, 1), (1, 2)]), (7, [(2, .inl (10, 10)), (0, .inr (.inr 1)), (1, .inl (2048, 2048))], [((1, 45), .inl (10, 10)), ((1, 41), .inr (.inr 43)), ((4, 12), .inl (10, 12))], [(0, 2)], [(0, 1), (1, 2)]), (7, [(2, .inl (11, 11)), (0, .inr (.inr 1)), (1, .inl (2048, 2048))], [((1, 45), .inl (11, 11)), ((1, 41), .inr (.inr 43)), ((4, 12), .inl (11, 12))], [(0, 1)], [(0, 1), (1, 2)]), (7, [(2, .inl (12, 12)), (0, .inr (.inr 1)), (1, .inl (2048, 2048))], [((1, 45), .inl (11, 11)), ((1, 41), .inr (.inr 43)), ((4, 12), .inl (12, 12))], [(0, 0)], [(0, 1), (1, 2)])]
def km316_s : List fx_D := []
def km316_x : fx_X := ([], [(92, 12, 41), (95, 12, 42), (384, 12, 45)], [(384, 12, 45, 0)], [], [], [(20, 474, 1000, km304_c), (20, 474, 1000, km305_c), (20, 474, 1000, km306_c), (20, 474, 1000, km307_c), (20, 474, 1000, km308_c), (20, 474, 1000, km309_c), (20, 474, 1000, km310_c), (20, 474, 1000, km311_c), (20, 474, 1000, km312_c), (20, 474, 1000, km313_c), (20, 474, 1000, km314_c), (20, 474, 1000, km315_c)])
set_option maxRecDepth 100000 in
theorem km316_k : fx_chk TM 3 km316_c 9 km316_x t_X12_layWithout km316_a km316_s 32 = true := by decide +kernel
set_option maxRecDepth 100000 in
theorem km316 {l : Launch} {E : (Nat → Prop) → State → Prop} {ad : List Nat} {D : va_G} {cy : Nat → ClassId} (h : fx_env E D classes (tys cy) nestW) : fx_Met l yX12_layWithout (.code yX12_layWithout cX12_layWithout 3 none :: wsL_law) ({ frames := 1, cells := 0, slots := 0, locals := 21 }) E (gsM, TM, cy, fun _ => True) ad D classes km316_c :=
  fx_sound (x := km316_x) (tb := t_X12_layWithout) (an := km316_a) (sp := km316_s) (rk := 9) 32 h (fun _ _ _ _ _ _ => trivial) (fun _ _ _ _ _ _ => trivial) (ht_tys cy) (by decide) rfl ⟨fx_an, (fx_ac fl_X12_92 (fx_ac fl_X12_95 (fx_ac fl_X12_384 (fx_an)))), (fx_ac pl_X12_384 (fx_an)), fx_an, fx_an, (fx_ac (ev_S (km304 h) ⟨by decide, by decide⟩ iS_X12_has g_X12_474) (fx_ac (ev_S (km305 h) ⟨by decide, by decide⟩ iS_X12_has g_X12_474) (fx_ac (ev_S (km306 h) ⟨by decide, by decide⟩ iS_X12_has g_X12_474) (fx_ac (ev_S (km307 h) ⟨by decide, by decide⟩ iS_X12_has g_X12_474) (fx_ac (ev_S (km308 h) ⟨by decide, by decide⟩ iS_X12_has g_X12_474) (fx_ac (ev_S (km309 h) ⟨by decide, by decide⟩ iS_X12_has g_X12_474) (fx_ac (ev_S (km310 h) ⟨by decide, by decide⟩ iS_X12_has g_X12_474) (fx_ac (ev_S (km311 h) ⟨by decide, by decide⟩ iS_X12_has g_X12_474) (fx_ac (ev_S (km312 h) ⟨by decide, by decide⟩ iS_X12_has g_X12_474) (fx_ac (ev_S (km313 h) ⟨by decide, by decide⟩ iS_X12_has g_X12_474) (fx_ac (ev_S (km314 h) ⟨by decide, by decide⟩ iS_X12_has g_X12_474) (fx_ac (ev_S (km315 h) ⟨by decide, by decide⟩ iS_X12_has g_X12_474) (fx_an)))))))))))))⟩ d_X12_layWithout km316_k
