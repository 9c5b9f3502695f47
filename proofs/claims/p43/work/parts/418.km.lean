-- X12_layWithout 0 i ('c', 512)
def km240_c : fx_C := ([.inr (.inr 1), .inl (512, 512)], [], [(none, [.inr (.inr 1), .inl (512, 512)], [((0, 45), .inl (0, 11))])], [(12, 45), (1000, 27)])
def km240_a : List fx_N := [(7, [(2, .inl (0, 0)), (0, .inr (.inr 1)), (1, .inl (512, 512))], [((1, 45), .inl (0, 0))], [(0, 12)], [(0, 1), (1, 2)]), (7, [(2, .inl (1, 1)), (0, .inr (.inr 1)), (1, .inl (512, 512))], [((1, 45), .inl (1, 1)), ((1, 41), .inr (.inr 27)), ((4, 12), .inl (1, 12))], [(0, 11)], [(0, 1), (1, 2)]), (7, [(2, .inl (2, 2)), (0, .inr (.inr 1)), (1, .inl (512, 512))], [((1, 45), .inl (2, 2)), ((1, 41), .inr (.inr 27)), ((4, 12), .inl (2, 12))], [(0, 10)], [(0, 1), (1, 2)]), (7, [(2, .inl (3, 3)), (0, .inr (.inr 1)), (1, .inl (512, 512))], [((1, 45), .inl (3, 3)), ((1, 41), .inr (.inr 27)), ((4, 12), .inl (3, 12))], [(0, 9)], [(0, 1), (1, 2)]), (7, [(2, .inl (4, 4)), (0, .inr (.inr 1)), (1, .inl (512, 512))], [((1, 45), .inl (4, 4)), ((1, 41), .inr (.inr 27)), ((4, 12), .inl (4, 12))], [(0, 8)], [(0, 1), (1, 2)]), (7, [(2, .inl (5, 5)), (0, .inr (.inr 1)), (1, .inl (512, 512))], [((1, 45), .inl (5, 5)), ((1, 41), .inr (.inr 27)), ((4, 12), .inl (5, 12))], [(0, 7)], [(0, 1), (1, 2)]), (7, [(2, .inl (6, 6)), (0, .inr (.inr 1)), (1, .inl (512, 512))], [((1, 45), .inl (6, 6)), ((1, 41), .inr (.inr 27)), ((4, 12), .inl (6, 12))], [(0, 6)], [(0, 1), (1, 2)]), (7, [(2, .inl (7, 7)), (0, .inr (.inr 1)), (1, .inl (512, 512))], [((1, 45), .inl (7, 7)), ((1, 41), .inr (.inr 27)), ((4, 12), .inl (7, 12))], [(0, 5)], [(0, 1), (1, 2)]), (7, [(2, .inl (8, 8)), (0, .inr (.inr 1)), (1, .inl (512, 512))], [((1, 45), .inl (8, 8)), ((1, 41), .inr (.inr 27)), ((4, 12), .inl (8, 12))], [(0, 4)], [(0, 1), (1, 2)]), (7, [(2, .inl (9, 9)), (0, .inr (.inr 1)), (1, .inl (512, 512))], [((1, 45), .inl (9, 9)), ((1, 41), .inr (.inr 27)), ((4, 12), .inl (9, 12))], [(0, 3)], [(0, 1), (1, 2)]), (7, [(2, .inl (10, 10)), (0, .inr (.inr 1)), (1, .inl (512, 512))], [((1, 45), .inl (9, 9)), ((1, 41), .inr (.inr 27)), ((4, 12), .inl (10, 12))], [(0, 2)], [(0, 1), (1, 2)]), (7, [(2, .inl (11, 11)), (0, .inr (.inr 1)), (1, .inl (512, 512))], [((1, 45), .inl (10, 10)), ((1, 41), .inr (.inr 27)), ((4, 12), .inl (11, 12))], [(0, 1)], [(0, 1), (1, 2)]), (7, [(2, .inl (12, 12)), (0, .inr (.inr 1)), (1, .inl (512, 512))], [((1, 45), .inl (11, 11)), ((1, 41), .inr (.inr 27)), ((4, 12), .inl (12, 12))], [(0, 0)], [(0, 1), (1, 2)])]
def km240_s : List fx_D := []
def km240_x : fx_X := ([], [(92, 12, 41), (95, 12, 42), (384, 12, 45)], [(384, 12, 45, 0)], [], [], [(20, 474, 1000, km228_c), (20, 474, 1000, km229_c), (20, 474, 1000, km230_c), (20, 474, 1000, km231_c), (20, 474, 1000, km232_c), (20, 474, 1000, km233_c), (20, 474, 1000, km234_c), (20, 474, 1000, km235_c), (20, 474, 1000, km236_c), (20, 474, 1000, km237_c), (20, 474, 1000, km238_c), (20, 474, 1000, km239_c)])
set_option maxRecDepth 100000 in
theorem km240_k : fx_chk TM 3 km240_c 9 km240_x t_X12_layWithout km240_a km240_s 32 = true := by decide +kernel
set_option maxRecDepth 100000 in
theorem km240 {l : Launch} {E : (Nat → Prop) → State → Prop} {ad : List Nat} {D : va_G} {cy : Nat → ClassId} (h : fx_env E D classes (tys cy) nestW) : fx_Met l yX12_layWithout (.code yX12_layWithout cX12_layWithout 3 none :: wsL_law) ({ frames := 1, cells := 0, slots := 0, locals := 21 }) E (gsM, TM, cy, fun _ => True) ad D classes km240_c :=
  fx_sound (x := km240_x) (tb := t_X12_layWithout) (an := km240_a) (sp := km240_s) (rk := 9) 32 h (fun _ _ _ _ _ _ => trivial) (fun _ _ _ _ _ _ => trivial) (ht_tys cy) (by decide) rfl ⟨fx_an, (fx_ac fl_X12_92 (fx_ac fl_X12_95 (fx_ac fl_X12_384 (fx_an)))), (fx_ac pl_X12_384 (fx_an)), fx_an, fx_an, (fx_ac (ev_S (km228 h) ⟨by decide, by decide⟩ iS_X12_has g_X12_474) (fx_ac (ev_S (km229 h) ⟨by decide, by decide⟩ iS_X12_has g_X12_474) (fx_ac (ev_S (km230 h) ⟨by decide, by decide⟩ iS_X12_has g_X12_474) (fx_ac (ev_S (km231 h) ⟨by decide, by decide⟩ iS_X12_has g_X12_474) (fx_ac (ev_S (km232 h) ⟨by decide, by decide⟩ iS_X12_has g_X12_474) (fx_ac (ev_S (km233 h) ⟨by decide, by decide⟩ iS_X12_has g_X12_474) (fx_ac (ev_S (km234 h) ⟨by decide, by decide⟩ iS_X12_has g_X12_474) (fx_ac (ev_S (km235 h) ⟨by decide, by decide⟩ iS_X12_has g_X12_474) (fx_ac (ev_S (km236 h) ⟨by decide, by decide⟩ iS_X12_has g_X12_474) (fx_ac (ev_S (km237 h) ⟨by decide, by decide⟩ iS_X12_has g_X12_474) (fx_ac (ev_S (km238 h) ⟨by decide, by decide⟩ iS_X12_has g_X12_474) (fx_ac (ev_S (km239 h) ⟨by decide, by decide⟩ iS_X12_has g_X12_474) (fx_an)))))))))))))⟩ d_X12_layWithout km240_k
-- X12_has i i ('c', 1024) ('c', 0)
def km241_c : fx_C := ([.inl (1024, 1024), .inl (0, 0)], [], [(some (.inl (0, 0)), [.inl (1024, 1024), .inl (0, 0)], [])], [])
def km241_a : List fx_N := []
def km241_s : List fx_D := []
def km241_x : fx_X := ([], [], [], [], [], [])
set_option maxRecDepth 100000 in
theorem km241_k : fx_chk TM 2 km241_c 3 km241_x t_X12_has km241_a km241_s 11 = true := by decide +kernel
set_option maxRecDepth 100000 in
theorem km241 {l : Launch} {E : (Nat → Prop) → State → Prop} {ad : List Nat} {D : va_G} {cy : Nat → ClassId} (h : fx_env E D classes (tys cy) nestW) : fx_Met l yX12_has (.code yX12_has cX12_has 2 (some .boolean) :: wsL_law) ({ frames := 0, cells := 0, slots := 0, locals := 0 }) E (gsM, TM, cy, fun _ => True) ad D classes km241_c :=
  fx_sound (x := km241_x) (tb := t_X12_has) (an := km241_a) (sp := km241_s) (rk := 3) 11 h (fun _ _ _ _ _ _ => trivial) (fun _ _ _ _ _ _ => trivial) (ht_tys cy) (by decide) rfl ⟨fx_an, fx_an, fx_an, fx_an, fx_an, fx_an⟩ d_X12_has km241_k
-- X12_has i i ('c', 1024) ('c', 1)
def km242_c : fx_C := ([.inl (1024, 1024), .inl (1, 1)], [], [(some (.inl (0, 0)), [.inl (1024, 1024), .inl (1, 1)], [])], [])
def km242_a : List fx_N := []
def km242_s : List fx_D := []
def km242_x : fx_X := ([], [], [], [], [], [])
set_option maxRecDepth 100000 in
theorem km242_k : fx_chk TM 2 km242_c 3 km242_x t_X12_has km242_a km242_s 11 = true := by decide +kernel
set_option maxRecDepth 100000 in
theorem km242 {l : Launch} {E : (Nat → Prop) → State → Prop} {ad : List Nat} {D : va_G} {cy : Nat → ClassId} (h : fx_env E D classes (tys cy) nestW) : fx_Met l yX12_has (.code yX12_has cX12_has 2 (some .boolean) :: wsL_law) ({ frames := 0, cells := 0, slots := 0, locals := 0 }) E (gsM, TM, cy, fun _ => True) ad D classes km242_c :=
  fx_sound (x := km242_x) (tb := t_X12_has) (an := km242_a) (sp := km242_s) (rk := 3) 11 h (fun _ _ _ _ _ _ => trivial) (fun _ _ _ _ _ _ => trivial) (ht_tys cy) (by decide) rfl ⟨fx_an, fx_an, fx_an, fx_an, fx_an, fx_an⟩ d_X12_has km242_k
-- X12_has i i ('c', 1024) ('c', 2)
def km243_c : fx_C := ([.inl (1024, 1024), .inl (2, 2)], [], [(some (.inl (0, 0)), [.inl (1024, 1024), .inl (2, 2)], [])], [])
def km243_a : List fx_N := []
def km243_s : List fx_D := []
def km243_x : fx_X := ([], [], [], [], [], [])
set_option maxRecDepth 100000 in
theorem km243_k : fx_chk TM 2 km243_c 3 km243_x t_X12_has km243_a km243_s 11 = true := by decide +kernel
set_option maxRecDepth 100000 in
theorem km243 {l : Launch} {E : (Nat → Prop) → State → Prop} {ad : List Nat} {D : va_G} {cy : Nat → ClassId} (h : fx_env E D classes (tys cy) nestW) : fx_Met l yX12_has (.code yX12_has cX12_has 2 (some .boolean) :: wsL_law) ({ frames := 0, cells := 0, slots := 0, locals := 0 }) E (gsM, TM, cy, fun _ => True) ad D classes km243_c :=
  fx_sound (x := km243_x) (tb := t_X12_has) (an := km243_a) (sp := km243_s) (rk := 3) 11 h (fun _ _ _ _ _ _ => trivial) (fun _ _ _ _ _ _ => trivial) (ht_tys cy) (by decide) rfl ⟨fx_an, fx_an, fx_an, fx_an, fx_an, fx_an⟩ d_X12_has km243_k
-- X12_has i i ('c', 1024) ('c', 3)
def km244_c : fx_C := ([.inl (1024, 1024), .inl (3, 3)], [], [(some (.inl (0, 0)), [.inl (1024, 1024), .inl (3, 3)], [])], [])
def km244_a : List fx_N := []
def km244_s : List fx_D := []
def km244_x : fx_X := ([], [], [], [], [], [])
set_option maxRecDepth 100000 in
theorem km244_k : fx_chk TM 2 km244_c 3 km244_x t_X12_has km244_a km244_s 11 = true := by decide +kernel
set_option maxRecDepth 100000 in
theorem km244 {l : Launch} {E : (Nat → Prop) → State → Prop} {ad : List Nat} {D : va_G} {cy : Nat → ClassId} (h : fx_env E D classes (tys cy) nestW) : fx_Met l yX12_has (.code yX12_has cX12_has 2 (some .boolean) :: wsL_law) ({ frames := 0, cells := 0, slots := 0, locals := 0 }) E (gsM, TM, cy, fun _ => True) ad D classes km244_c :=
  fx_sound (x := km244_x) (tb := t_X12_has) (an := km244_a) (sp := km244_s) (rk := 3) 11 h (fun _ _ _ _ _ _ => trivial) (fun _ _ _ _ _ _ => trivial) (ht_tys cy) (by decide) rfl ⟨fx_an, fx_an, fx_an, fx_an, fx_an, fx_an⟩ d_X12_has km244_k
-- X12_has i i ('c', 1024) ('c', 4)
def km245_c : fx_C := ([.inl (1024, 1024), .inl (4, 4)], [], [(some (.inl (0, 0)), [.inl (1024, 1024), .inl (4, 4)], [])], [])
def km245_a : List fx_N := []
def km245_s : List fx_D := []
def km245_x : fx_X := ([], [], [], [], [], [])
set_option maxRecDepth 100000 in
theorem km245_k : fx_chk TM 2 km245_c 3 km245_x t_X12_has km245_a km245_s 11 = true := by decide +kernel
set_option maxRecDepth 100000 in
theorem km245 {l : Launch} {E : (Nat → Prop) → State → Prop} {ad : List Nat} {D : va_G} {cy : Nat → ClassId} (h : fx_env E D classes (tys cy) nestW) : fx_Met l yX12_has (.code yX12_has cX12_has 2 (some .boolean) :: wsL_law) ({ frames := 0, cells := 0, slots := 0, locals := 0 }) E (gsM, TM, cy, fun _ => True) ad D classes km245_c :=
  fx_sound (x := km245_x) (tb := t_X12_has) (an := km245_a) (sp := km245_s) (rk := 3) 11 h (fun _ _ _ _ _ _ => trivial) (fun _ _ _ _ _ _ => trivial) (ht_tys cy) (by decide) rfl ⟨fx_an, fx_an, fx_an, fx_an, fx_an, fx_an⟩ d_X12_has km245_k
-- X12_has i i ('c', 1024) ('c', 5)
def km246_c : fx_C := ([.inl (1024, 1024), .inl (5, 5)], [], [(some (.inl (0, 0)), [.inl (1024, 1024), .inl (5, 5)], [])], [])
def km246_a : List fx_N := []
def km246_s : List fx_D := []
def km246_x : fx_X := ([], [], [], [], [], [])
set_option maxRecDepth 100000 in
theorem km246_k : fx_chk TM 2 km246_c 3 km246_x t_X12_has km246_a km246_s 11 = true := by decide +kernel
set_option maxRecDepth 100000 in
theorem km246 {l : Launch} {E : (Nat → Prop) → State → Prop} {ad : List Nat} {D : va_G} {cy : Nat → ClassId} (h : fx_env E D classes (tys cy) nestW) : fx_Met l yX12_has (.code yX12_has cX12_has 2 (some .boolean) :: wsL_law) ({ frames := 0, cells := 0, slots := 0, locals := 0 }) E (gsM, TM, cy, fun _ => True) ad D classes km246_c :=
  fx_sound (x := km246_x) (tb := t_X12_has) (an := km246_a) (sp := km246_s) (rk := 3) 11 h (fun _ _ _ _ _ _ => trivial) (fun _ _ _ _ _ _ => trivial) (ht_tys cy) (by decide) rfl ⟨fx_an, fx_an, fx_an, fx_an, fx_an, fx_an⟩ d_X12_has km246_k
-- X12_has i i ('c', 1024) ('c', 6)
def km247_c : fx_C := ([.inl (1024, 1024), .inl (6, 6)], [], [(some (.inl (0, 0)), [.inl (1024, 1024), .inl (6, 6)], [])], [])
def km247_a : List fx_N := []
def km247_s : List fx_D := []
def km247_x : fx_X := ([], [], [], [], [], [])
set_option maxRecDepth 100000 in
theorem km247_k : fx_chk TM 2 km247_c 3 km247_x t_X12_has km247_a km247_s 11 = true := by decide +kernel
set_option maxRecDepth 100000 in
theorem km247 {l : Launch} {E : (Nat → Prop) → State → Prop} {ad : List Nat} {D : va_G} {cy : Nat → ClassId} (h : fx_env E D classes (tys cy) nestW) : fx_Met l yX12_has (.code yX12_has cX12_has 2 (some .boolean) :: wsL_law) ({ frames := 0, cells := 0, slots := 0, locals := 0 }) E (gsM, TM, cy, fun _ => True) ad D classes km247_c :=
  fx_sound (x := km247_x) (tb := t_X12_has) (an := km247_a) (sp := km247_s) (rk := 3) 11 h (fun _ _ _ _ _ _ => trivial) (fun _ _ _ _ _ _ => trivial) (ht_tys cy) (by decide) rfl ⟨fx_an, fx_an, fx_an, fx_an, fx_an, fx_an⟩ d_X12_has km247_k
-- X12_has i i ('c', 1024) ('c', 7)
def km248_c : fx_C := ([.inl (1024, 1024), .inl (7, 7)], [], [(some (.inl (0, 0)), [.inl (1024, 1024), .inl (7, 7)], [])], [])
def km248_a : List fx_N := []
def km248_s : List fx_D := []
def km248_x : fx_X := ([], [], [], [], [], [])
set_option maxRecDepth 100000 in
theorem km248_k : fx_chk TM 2 km248_c 3 km248_x t_X12_has km248_a km248_s 11 = true := by decide +kernel
set_option maxRecDepth 100000 in
theorem km248 {l : Launch} {E : (Nat → Prop) → State → Prop} {ad : List Nat} {D : va_G} {cy : Nat → ClassId} (h : fx_env E D classes (tys cy) nestW) : fx_Met l yX12_has (.code yX12_has cX12_has 2 (some .boolean) :: wsL_law) ({ frames := 0, cells := 0, slots := 0, locals := 0 }) E (gsM, TM, cy, fun _ => True) ad D classes km248_c :=
  fx_sound (x := km248_x) (tb := t_X12_has) (an := km248_a) (sp := km248_s) (rk := 3) 11 h (fun _ _ _ _ _ _ => trivial) (fun _ _ _ _ _ _ => trivial) (ht_tys cy) (by decide) rfl ⟨fx_an, fx_an, fx_an, fx_an, fx_an, fx_an⟩ d_X12_has km248_k
-- X12_has i i ('c', 1024) ('c', 8)
def km249_c : fx_C := ([.inl (1024, 1024), .inl (8, 8)], [], [(some (.inl (0, 0)), [.inl (1024, 1024), .inl (8, 8)], [])], [])
def km249_a : List fx_N := []
def km249_s : List fx_D := []
def km249_x : fx_X := ([], [], [], [], [], [])
set_option maxRecDepth 100000 in
theorem km249_k : fx_chk TM 2 km249_c 3 km249_x t_X12_has km249_a km249_s 11 = true := by decide +kernel
set_option maxRecDepth 100000 in
theorem km249 {l : Launch} {E : (Nat → Prop) → State → Prop} {ad : List Nat} {D : va_G} {cy : Nat → ClassId} (h : fx_env E D classes (tys cy) nestW) : fx_Met l yX12_has (.code yX12_has cX12_has 2 (some .boolean) :: wsL_law) ({ frames := 0, cells := 0, slots := 0, locals := 0 }) E (gsM, TM, cy, fun _ => True) ad D classes km249_c :=
  fx_sound (x := km249_x) (tb := t_X12_has) (an := km249_a) (sp := km249_s) (rk := 3) 11 h (fun _ _ _ _ _ _ => trivial) (fun _ _ _ _ _ _ => trivial) (ht_tys cy) (by decide) rfl ⟨fx_an, fx_an, fx_an, fx_an, fx_an, fx_an⟩ d_X12_has km249_k
-- X12_has i i ('c', 1024) ('c', 9)
def km250_c : fx_C := ([.inl (1024, 1024), .inl (9, 9)], [], [(some (.inl (0, 0)), [.inl (1024, 1024), .inl (9, 9)], [])], [])
def km250_a : List fx_N := []
def km250_s : List fx_D := []
def km250_x : fx_X := ([], [], [], [], [], [])
set_option maxRecDepth 100000 in
theorem km250_k : fx_chk TM 2 km250_c 3 km250_x t_X12_has km250_a km250_s 11 = true := by decide +kernel
set_option maxRecDepth 100000 in
theorem km250 {l : Launch} {E : (Nat → Prop) → State → Prop} {ad : List Nat} {D : va_G} {cy : Nat → ClassId} (h : fx_env E D classes (tys cy) nestW) : fx_Met l yX12_has (.code yX12_has cX12_has 2 (some .boolean) :: wsL_law) ({ frames := 0, cells := 0, slots := 0, locals := 0 }) E (gsM, TM, cy, fun _ => True) ad D classes km250_c :=
  fx_sound (x := km250_x) (tb := t_X12_has) (an := km250_a) (sp := km250_s) (rk := 3) 11 h (fun _ _ _ _ _ _ => trivial) (fun _ _ _ _ _ _ => trivial) (ht_tys cy) (by decide) rfl ⟨fx_an, fx_an, fx_an, fx_an, fx_an, fx_an⟩ d_X12_has km250_k
-- X12_has i i ('c', 1024) ('c', 10)
def km251_c : fx_C := ([.inl (1024, 1024), .inl (10, 10)], [], [(some (.inl (1, 1)), [.inl (1024, 1024), .inl (10, 10)], [])], [])
def km251_a : List fx_N := []
def km251_s : List fx_D := []
def km251_x : fx_X := ([], [], [], [], [], [])
set_option maxRecDepth 100000 in
theorem km251_k : fx_chk TM 2 km251_c 3 km251_x t_X12_has km251_a km251_s 12 = true := by decide +kernel
set_option maxRecDepth 100000 in
theorem km251 {l : Launch} {E : (Nat → Prop) → State → Prop} {ad : List Nat} {D : va_G} {cy : Nat → ClassId} (h : fx_env E D classes (tys cy) nestW) : fx_Met l yX12_has (.code yX12_has cX12_has 2 (some .boolean) :: wsL_law) ({ frames := 0, cells := 0, slots := 0, locals := 0 }) E (gsM, TM, cy, fun _ => True) ad D classes km251_c :=
  fx_sound (x := km251_x) (tb := t_X12_has) (an := km251_a) (sp := km251_s) (rk := 3) 12 h (fun _ _ _ _ _ _ => trivial) (fun _ _ _ _ _ _ => trivial) (ht_tys cy) (by decide) rfl ⟨fx_an, fx_an, fx_an, fx_an, fx_an, fx_an⟩ d_X12_has km251_k
-- X12_has i i ('c', 1024) ('c', 11)
def km252_c : fx_C := ([.inl (1024, 1024), .inl (11, 11)], [], [(some (.inl (0, 0)), [.inl (1024, 1024), .inl (11, 11)], [])], [])
def km252_a : List fx_N := []
def km252_s : List fx_D := []
def km252_x : fx_X := ([], [], [], [], [], [])
set_option maxRecDepth 100000 in
theorem km252_k : fx_chk TM 2 km252_c 3 km252_x t_X12_has km252_a km252_s 11 = true := by decide +kernel
set_option maxRecDepth 100000 in
theorem km252 {l : Launch} {E : (Nat → Prop) → State → Prop} {ad : List Nat} {D : va_G} {cy : Nat → ClassId} (h : fx_env E D classes (tys cy) nestW) : fx_Met l yX12_has (.code yX12_has cX12_has 2 (some .boolean) :: wsL_law) ({ frames := 0, cells := 0, slots := 0, locals := 0 }) E (gsM, TM, cy, fun _ => True) ad D classes km252_c :=
  fx_sound (x := km252_x) (tb := t_X12_has) (an := km252_a) (sp := km252_s) (rk := 3) 11 h (fun _ _ _ _ _ _ => trivial) (fun _ _ _ _ _ _ => trivial) (ht_tys cy) (by decide) rfl ⟨fx_an, fx_an, fx_an, fx_an, fx_an, fx_an⟩ d_X12_has km252_k
-- X12_layWithout 0 i ('c', 1024)
def km253_c : fx_C := ([.inr (.inr 1), .inl (1024, 1024)], [], [(none, [.inr (.inr 1), .inl (1024, 1024)], [((0, 45), .inl (0, 11))])], [(12, 45), (1000, 27)])
def km253_a : List fx_N := [(7, [(2, .inl (0, 0)), (0, .inr (.inr 1)), (1, .inl (1024, 1024))], [((1, 45), .inl (0, 0))], [(0, 12)], [(0, 1), (1, 2)]), (7, [(2, .inl (1, 1)), (0, .inr (.inr 1)), (1, .inl (1024, 1024))], [((1, 45), .inl (1, 1)), ((1, 41), .inr (.inr 27)), ((4, 12), .inl (1, 12))], [(0, 11)], [(0, 1), (1, 2)]), (7, [(2, .inl (2, 2)), (0, .inr (.inr 1)), (1, .inl (1024, 1024))], [((1, 45), .inl (2, 2)), ((1, 41), .inr (.inr 27)), ((4, 12), .inl (2, 12))], [(0, 10)], [(0, 1), (1, 2)]), (7, [(2, .inl (3, 3)), (0, .inr (.inr 1)), (1, .inl (1024, 1024))], [((1, 45), .inl (3, 3)), ((1, 41), .inr (.inr 27)), ((4, 12), .inl (3, 12))], [(0, 9)], [(0, 1), (1, 2)]), (7, [(2, .inl (4, 4)), (0, .inr (.inr 1)), (1, .inl (1024, 1024))], [((1, 45), .inl (4, 4)), ((1, 41), .inr (.inr 27)), ((4, 12), .inl (4, 12))], [(0, 8)], [(0, 1), (1, 2)]), (7, [(2, .inl (5, 5)), (0, .inr (.inr 1)), (1, .inl (1024, 1024))], [((1, 45), .inl (5, 5)), ((1, 41), .inr (.inr 27)), ((4, 12), .inl (5, 12))], [(0, 7)], [(0, 1), (1, 2)]), (7, [(2, .inl (6, 6)), (0, .inr (.inr 1)), (1, .inl (1024, 1024))], [((1, 45), .inl (6, 6)), ((1, 41), .inr (.inr 27)), ((4, 12), .inl (6, 12))], [(0, 6)], [(0, 1), (1, 2)]), (7, [(2, .inl (7, 7)), (0, .inr (.inr 1)), (1, .inl (1024, 1024))], [((1, 45), .inl (7, 7)), ((1, 41), .inr (.inr 27)), ((4, 12), .inl (7, 12))], [(0, 5)], [(0, 1), (1, 2)]), (7, [(2, .inl (8, 8)), (0, .inr (.inr 1)), (1, .inl (1024, 1024))], [((1, 45), .inl (8, 8)), ((1, 41), .inr (.inr 27)), ((4, 12), .inl (8, 12))], [(0, 4)], [(0, 1), (1, 2)]), (7, [(2, .inl (9, 9)), (0, .inr (.inr 1)), (1, .inl (1024, 1024))], [((1, 45), .inl (9, 9)), ((1, 41), .inr (.inr 27)), ((4, 12), .inl (9, 12))], [(0, 3)], [(0, 1), (1, 2)]), (7, [(2, .inl (10, 10)), (0, .inr (.inr 1)), (1, .inl (1024, 1024))], [((1, 45), .inl (10, 10)), ((1, 41), .inr (.inr 27)), ((4, 12), .inl (10, 12))], [(0, 2)], [(0, 1), (1, 2)]), (7, [(2, .inl (11, 11)), (0, .inr (.inr 1)), (1, .inl (1024, 1024))], [((1, 45), .inl (10, 10)), ((1, 41), .inr (.inr 27)), ((4, 12), .inl (11, 12))], [(0, 1)], [(0, 1), (1, 2)]), (7, [(2, .inl (12, 12)), (0, .inr (.inr 1)), (1, .inl (1024, 1024))], [((1, 45), .inl (11, 11)), ((1, 41), .inr (.inr 27)), ((4, 12), .inl (12, 12))], [(0, 0)], [(0, 1), (1, 2)])]
def km253_s : List fx_D := []
def km253_x : fx_X := ([], [(92, 12, 41), (95, 12, 42), (384, 12, 45)], [(384, 12, 45, 0)], [], [], [(20, 474, 1000, km241_c), (20, 474, 1000, km242_c), (20, 474, 1000, km243_c), (20, 474, 1000, km244_c), (20, 474, 1000, km245_c), (20, 474, 1000, km246_c), (20, 474, 1000, km247_c), (20, 474, 1000, km248_c), (20, 474, 1000, km249_c), (20, 474, 1000, km250_c), (20, 474, 1000, km251_c), (20, 474, 1000, km252_c)])
set_option maxRecDepth 100000 in
theorem km253_k : fx_chk TM 3 km253_c 9 km253_x t_X12_layWithout km253_a km253_s 32 = true := by decide +kernel
set_option maxRecDepth 100000 in
theorem km253 {l : Launch} {E : (Nat → Prop) → State → Prop} {ad : List Nat} {D : va_G} {cy : Nat → ClassId} (h : fx_env E D classes (tys cy) nestW) : fx_Met l yX12_layWithout (.code yX12_layWithout cX12_layWithout 3 none :: wsL_law) ({ frames := 1, cells := 0, slots := 0, locals := 21 }) E (gsM, TM, cy, fun _ => True) ad D classes km253_c :=
  fx_sound (x := km253_x) (tb := t_X12_layWithout) (an := km253_a) (sp := km253_s) (rk := 9) 32 h (fun _ _ _ _ _ _ => trivial) (fun _ _ _ _ _ _ => trivial) (ht_tys cy) (by decide) rfl ⟨fx_an, (fx_ac fl_X12_92 (fx_ac fl_X12_95 (fx_ac fl_X12_384 (fx_an)))), (fx_ac pl_X12_384 (fx_an)), fx_an, fx_an, (fx_ac (ev_S (km241 h) ⟨by decide, by decide⟩ iS_X12_has g_X12_474) (fx_ac (ev_S (km242 h) ⟨by decide, by decide⟩ iS_X12_has g_X12_474) (fx_ac (ev_S (km243 h) ⟨by decide, by decide⟩ iS_X12_has g_X12_474) (fx_ac (ev_S (km244 h) ⟨by decide, by decide⟩ iS_X12_has g_X12_474) (fx_ac (ev_S (km245 h) ⟨by decide, by decide⟩ iS_X12_has g_X12_474) (fx_ac (ev_S (km246 h) ⟨by decide, by decide⟩ iS_X12_has g_X12_474) (fx_ac (ev_S (km247 h) ⟨by decide, by decide⟩ iS_X12_has g_X12_474) (fx_ac (ev_S (km248 h) ⟨by decide, by decide⟩ iS_X12_has g_X12_474) (fx_ac (ev_S (km249 h) ⟨by decide, by decide⟩ iS_X12_has g_X12_474) (fx_ac (ev_S (km250 h) ⟨by decide, by decide⟩ iS_X12_has g_X12_474) (fx_ac (ev_S (km251 h) ⟨by decide, by decide⟩ iS_X12_has g_X12_474) (fx_ac (ev_S (km252 h) ⟨by decide, by decide⟩ iS_X12_has g_X12_474) (fx_an)))))))))))))⟩ d_X12_layWithout km253_k
-- X12_has i i ('c', 2048) ('c', 0)
def km254_c : fx_C := ([.inl (2048, 2048), .inl (0, 0)], [], [(some (.inl (0, 0)), [.inl (2048, 2048), .inl (0, 0)], [])], [])
def km254_a : List fx_N := []
def km254_s : List fx_D := []
def km254_x : fx_X := ([], [], [], [], [], [])
set_option maxRecDepth 100000 in
theorem km254_k : fx_chk TM 2 km254_c 3 km254_x t_X12_has km254_a km254_s 11 = true := by decide +kernel
set_option maxRecDepth 100000 in
theorem km254 {l : Launch} {E : (Nat → Prop) → State → Prop} {ad : List Nat} {D : va_G} {cy : Nat → ClassId} (h : fx_env E D classes (tys cy) nestW) : fx_Met l yX12_has (.code yX12_has cX12_has 2 (some .boolean) :: wsL_law) ({ frames := 0, cells := 0, slots := 0, locals := 0 }) E (gsM, TM, cy, fun _ => True) ad D classes km254_c :=
  fx_sound (x := km254_x) (tb := t_X12_has) (an := km254_a) (sp := km254_s) (rk := 3) 11 h (fun _ _ _ _ _ _ => trivial) (fun _ _ _ _ _ _ => trivial) (ht_tys cy) (by decide) rfl ⟨fx_an, fx_an, fx_an, fx_an, fx_an, fx_an⟩ d_X12_has km254_k
-- X12_has i i ('c', 2048) ('c', 1)
def km255_c : fx_C := ([.inl (2048, 2048), .inl (1, 1)], [], [(some (.inl (0, 0)), [.inl (2048, 2048), .inl (1, 1)], [])], [])
def km255_a : List fx_N := []
def km255_s : List fx_D := []
def km255_x : fx_X := ([], [], [], [], [], [])
set_option maxRecDepth 100000 in
theorem km255_k : fx_chk TM 2 km255_c 3 km255_x t_X12_has km255_a km255_s 11 = true := by decide +kernel
set_option maxRecDepth 100000 in
theorem km255 {l : Launch} {E : (Nat → Prop) → State → Prop} {ad : List Nat} {D : va_G} {cy : Nat → ClassId} (h : fx_env E D classes (tys cy) nestW) : fx_Met l yX12_has (.code yX12_has cX12_has 2 (some .boolean) :: wsL_law) ({ frames := 0, cells := 0, slots := 0, locals := 0 }) E (gsM, TM, cy, fun _ => True) ad D classes km255_c :=
  fx_sound (x := km255_x) (tb := t_X12_has) (an := km255_a) (sp := km255_s) (rk := 3) 11 h (fun _ _ _ _ _ _ => trivial) (fun _ _ _ _ _ _ => trivial) (ht_tys cy) (by decide) rfl ⟨fx_an, fx_an, fx_an, fx_an, fx_an, fx_an⟩ d_X12_has km255_k
-- X12_has i i ('c', 2048) ('c', 2)
def km256_c : fx_C := ([.inl (2048, 2048), .inl (2, 2)], [], [(some (.inl (0, 0)), [.inl (2048, 2048), .inl (2, 2)], [])], [])
def km256_a : List fx_N := []
def km256_s : List fx_D := []
def km256_x : fx_X := ([], [], [], [], [], [])
set_option maxRecDepth 100000 in
theorem km256_k : fx_chk TM 2 km256_c 3 km256_x t_X12_has km256_a km256_s 11 = true := by decide +kernel
set_option maxRecDepth 100000 in
theorem km256 {l : Launch} {E : (Nat → Prop) → State → Prop} {ad : List Nat} {D : va_G} {cy : Nat → ClassId} (h : fx_env E D classes (tys cy) nestW) : fx_Met l yX12_has (.code yX12_has cX12_has 2 (some .boolean) :: wsL_law) ({ frames := 0, cells := 0, slots := 0, locals := 0 }) E (gsM, TM, cy, fun _ => True) ad D classes km256_c :=
  fx_sound (x := km256_x) (tb := t_X12_has) (an := km256_a) (sp := km256_s) (rk := 3) 11 h (fun _ _ _ _ _ _ => trivial) (fun _ _ _ _ _ _ => trivial) (ht_tys cy) (by decide) rfl ⟨fx_an, fx_an, fx_an, fx_an, fx_an, fx_an⟩ d_X12_has km256_k
-- X12_has i i ('c', 2048) ('c', 3)
def km257_c : fx_C := ([.inl (2048, 2048), .inl (3, 3)], [], [(some (.inl (0, 0)), [.inl (2048, 2048), .inl (3, 3)], [])], [])
def km257_a : List fx_N := []
def km257_s : List fx_D := []
def km257_x : fx_X := ([], [], [], [], [], [])
set_option maxRecDepth 100000 in
theorem km257_k : fx_chk TM 2 km257_c 3 km257_x t_X12_has km257_a km257_s 11 = true := by decide +kernel
set_option maxRecDepth 100000 in
theorem km257 {l : Launch} {E : (Nat → Prop) → State → Prop} {ad : List Nat} {D : va_G} {cy : Nat → ClassId} (h : fx_env E D classes (tys cy) nestW) : fx_Met l yX12_has (.code yX12_has cX12_has 2 (some .boolean) :: wsL_law) ({ frames := 0, cells := 0, slots := 0, locals := 0 }) E (gsM, TM, cy, fun _ => True) ad D classes km257_c :=
  fx_sound (x := km257_x) (tb := t_X12_has) (an := km257_a) (sp := km257_s) (rk := 3) 11 h (fun _ _ _ _ _ _ => trivial) (fun _ _ _ _ _ _ => trivial) (ht_tys cy) (by decide) rfl ⟨fx_an, fx_an, fx_an, fx_an, fx_an, fx_an⟩ d_X12_has km257_k
-- X12_has i i ('c', 2048) ('c', 4)
def km258_c : fx_C := ([.inl (2048, 2048), .inl (4, 4)], [], [(some (.inl (0, 0)), [.inl (2048, 2048), .inl (4, 4)], [])], [])
def km258_a : List fx_N := []
def km258_s : List fx_D := []
def km258_x : fx_X := ([], [], [], [], [], [])
set_option maxRecDepth 100000 in
theorem km258_k : fx_chk TM 2 km258_c 3 km258_x t_X12_has km258_a km258_s 11 = true := by decide +kernel
set_option maxRecDepth 100000 in
theorem km258 {l : Launch} {E : (Nat → Prop) → State → Prop} {ad : List Nat} {D : va_G} {cy : Nat → ClassId} (h : fx_env E D classes (tys cy) nestW) : fx_Met l yX12_has (.code yX12_has cX12_has 2 (some .boolean) :: wsL_law) ({ frames := 0, cells := 0, slots := 0, locals := 0 }) E (gsM, TM, cy, fun _ => True) ad D classes km258_c :=
  fx_sound (x := km258_x) (tb := t_X12_has) (an := km258_a) (sp := km258_s) (rk := 3) 11 h (fun _ _ _ _ _ _ => trivial) (fun _ _ _ _ _ _ => trivial) (ht_tys cy) (by decide) rfl ⟨fx_an, fx_an, fx_an, fx_an, fx_an, fx_an⟩ d_X12_has km258_k
-- X12_has i i ('c', 2048) ('c', 5)
def km259_c : fx_C := ([.inl (2048, 2048), .inl (5, 5)], [], [(some (.inl (0, 0)), [.inl (2048, 2048), .inl (5, 5)], [])], [])
def km259_a : List fx_N := []
def km259_s : List fx_D := []
def km259_x : fx_X := ([], [], [], [], [], [])
set_option maxRecDepth 100000 in
theorem km259_k : fx_chk TM 2 km259_c 3 km259_x t_X12_has km259_a km259_s 11 = true := by decide +kernel
set_option maxRecDepth 100000 in
theorem km259 {l : Launch} {E : (Nat → Prop) → State → Prop} {ad : List Nat} {D : va_G} {cy : Nat → ClassId} (h : fx_env E D classes (tys cy) nestW) : fx_Met l yX12_has (.code yX12_has cX12_has 2 (some .boolean) :: wsL_law) ({ frames := 0, cells := 0, slots := 0, locals := 0 }) E (gsM, TM, cy, fun _ => True) ad D classes km259_c :=
  fx_sound (x := km259_x) (tb := t_X12_has) (an := km259_a) (sp := km259_s) (rk := 3) 11 h (fun _ _ _ _ _ _ => trivial) (fun _ _ _ _ _ _ => trivial) (ht_tys cy) (by decide) rfl ⟨fx_an, fx_an, fx_an, fx_an, fx_an, fx_an⟩ d_X12_has km259_k
-- X12_has i i ('c', 2048) ('c', 6)
def km260_c : fx_C := ([.inl (2048, 2048), .inl (6, 6)], [], [(some (.inl (0, 0)), [.inl (2048, 2048), .inl (6, 6)], [])], [])
def km260_a : List fx_N := []
def km260_s : List fx_D := []
def km260_x : fx_X := ([], [], [], [], [], [])
set_option maxRecDepth 100000 in
theorem km260_k : fx_chk TM 2 km260_c 3 km260_x t_X12_has km260_a km260_s 11 = true := by decide +kernel
set_option maxRecDepth 100000 in
theorem km260 {l : Launch} {E : (Nat → Prop) → State → Prop} {ad : List Nat} {D : va_G} {cy : Nat → ClassId} (h : fx_env E D classes (tys cy) nestW) : fx_Met l yX12_has (.code yX12_has cX12_has 2 (some .boolean) :: wsL_law) ({ frames := 0, cells := 0, slots := 0, locals := 0 }) E (gsM, TM, cy, fun _ => True) ad D classes km260_c :=
  fx_sound (x := km260_x) (tb := t_X12_has) (an := km260_a) (sp := km260_s) (rk := 3) 11 h (fun _ _ _ _ _ _ => trivial) (fun _ _ _ _ _ _ => trivial) (ht_tys cy) (by decide) rfl ⟨fx_an, fx_an, fx_an, fx_an, fx_an, fx_an⟩ d_X12_has km260_k
-- X12_has i i ('c', 2048) ('c', 7)
def km261_c : fx_C := ([.inl (2048, 2048), .inl (7, 7)], [], [(some (.inl (0, 0)), [.inl (2048, 2048), .inl (7, 7)], [])], [])
def km261_a : List fx_N := []
def km261_s : List fx_D := []
def km261_x : fx_X := ([], [], [], [], [], [])
set_option maxRecDepth 100000 in
theorem km261_k : fx_chk TM 2 km261_c 3 km261_x t_X12_has km261_a km261_s 11 = true := by decide +kernel
set_option maxRecDepth 100000 in
theorem km261 {l : Launch} {E : (Nat → Prop) → State → Prop} {ad : List Nat} {D : va_G} {cy : Nat → ClassId} (h : fx_env E D classes (tys cy) nestW) : fx_Met l yX12_has (.code yX12_has cX12_has 2 (some .boolean) :: wsL_law) ({ frames := 0, cells := 0, slots := 0, locals := 0 }) E (gsM, TM, cy, fun _ => True) ad D classes km261_c :=
  fx_sound (x := km261_x) (tb := t_X12_has) (an := km261_a) (sp := km261_s) (rk := 3) 11 h (fun _ _ _ _ _ _ => trivial) (fun _ _ _ _ _ _ => trivial) (ht_tys cy) (by decide) rfl ⟨fx_an, fx_an, fx_an, fx_an, fx_an, fx_an⟩ d_X12_has km261_k
-- X12_has i i ('c', 2048) ('c', 8)
def km262_c : fx_C := ([.inl (2048, 2048), .inl (8, 8)], [], [(some (.inl (0, 0)), [.inl (2048, 2048), .inl (8, 8)], [])], [])
def km262_a : List fx_N := []
def km262_s : List fx_D := []
def km262_x : fx_X := ([], [], [], [], [], [])
set_option maxRecDepth 100000 in
theorem km262_k : fx_chk TM 2 km262_c 3 km262_x t_X12_has km262_a km262_s 11 = true := by decide +kernel
set_option maxRecDepth 100000 in
theorem km262 {l : Launch} {E : (Nat → Prop) → State → Prop} {ad : List Nat} {D : va_G} {cy : Nat → ClassId} (h : fx_env E D classes (tys cy) nestW) : fx_Met l yX12_has (.code yX12_has cX12_has 2 (some .boolean) :: wsL_law) ({ frames := 0, cells := 0, slots := 0, locals := 0 }) E (gsM, TM, cy, fun _ => True) ad D classes km262_c :=
  fx_sound (x := km262_x) (tb := t_X12_has) (an := km262_a) (sp := km262_s) (rk := 3) 11 h (fun _ _ _ _ _ _ => trivial) (fun _ _ _ _ _ _ => trivial) (ht_tys cy) (by decide) rfl ⟨fx_an, fx_an, fx_an, fx_an, fx_an, fx_an⟩ d_X12_has km262_k
-- X12_has i i ('c', 2048) ('c', 9)
def km263_c : fx_C := ([.inl (2048, 2048), .inl (9, 9)], [], [(some (.inl (0, 0)), [.inl (2048, 2048), .inl (9, 9)], [])], [])
def km263_a : List fx_N := []
def km263_s : List fx_D := []
def km263_x : fx_X := ([], [], [], [], [], [])
set_option maxRecDepth 100000 in
theorem km263_k : fx_chk TM 2 km263_c 3 km263_x t_X12_has km263_a km263_s 11 = true := by decide +kernel
set_option maxRecDepth 100000 in
theorem km263 {l : Launch} {E : (Nat → Prop) → State → Prop} {ad : List Nat} {D : va_G} {cy : Nat → ClassId} (h : fx_env E D classes (tys cy) nestW) : fx_Met l yX12_has (.code yX12_has cX12_has 2 (some .boolean) :: wsL_law) ({ frames := 0, cells := 0, slots := 0, locals := 0 }) E (gsM, TM, cy, fun _ => True) ad D classes km263_c :=
  fx_sound (x := km263_x) (tb := t_X12_has) (an := km263_a) (sp := km263_s) (rk := 3) 11 h (fun _ _ _ _ _ _ => trivial) (fun _ _ _ _ _ _ => trivial) (ht_tys cy) (by decide) rfl ⟨fx_an, fx_an, fx_an, fx_an, fx_an, fx_an⟩ d_X12_has km263_k
-- X12_has i i ('c', 2048) ('c', 10)
def km264_c : fx_C := ([.inl (2048, 2048), .inl (10, 10)], [], [(some (.inl (0, 0)), [.inl (2048, 2048), .inl (10, 10)], [])], [])
def km264_a : List fx_N := []
def km264_s : List fx_D := []
def km264_x : fx_X := ([], [], [], [], [], [])
set_option maxRecDepth 100000 in
theorem km264_k : fx_chk TM 2 km264_c 3 km264_x t_X12_has km264_a km264_s 11 = true := by decide +kernel
set_option maxRecDepth 100000 in
theorem km264 {l : Launch} {E : (Nat → Prop) → State → Prop} {ad : List Nat} {D : va_G} {cy : Nat → ClassId} (h : fx_env E D classes (tys cy) nestW) : fx_Met l yX12_has (.code yX12_has cX12_has 2 (some .boolean) :: wsL_law) ({ frames := 0, cells := 0, slots := 0, locals := 0 }) E (gsM, TM, cy, fun _ => True) ad D classes km264_c :=
  fx_sound (x := km264_x) (tb := t_X12_has) (an := km264_a) (sp := km264_s) (rk := 3) 11 h (fun _ _ _ _ _ _ => trivial) (fun _ _ _ _ _ _ => trivial) (ht_tys cy) (by decide) rfl ⟨fx_an, fx_an, fx_an, fx_an, fx_an, fx_an⟩ d_X12_has km264_k
-- X12_has i i ('c', 2048) ('c', 11)
def km265_c : fx_C := ([.inl (2048, 2048), .inl (11, 11)], [], [(some (.inl (1, 1)), [.inl (2048, 2048), .inl (11, 11)], [])], [])
def km265_a : List fx_N := []
def km265_s : List fx_D := []
def km265_x : fx_X := ([], [], [], [], [], [])
set_option maxRecDepth 100000 in
theorem km265_k : fx_chk TM 2 km265_c 3 km265_x t_X12_has km265_a km265_s 12 = true := by decide +kernel
set_option maxRecDepth 100000 in
theorem km265 {l : Launch} {E : (Nat → Prop) → State → Prop} {ad : List Nat} {D : va_G} {cy : Nat → ClassId} (h : fx_env E D classes (tys cy) nestW) : fx_Met l yX12_has (.code yX12_has cX12_has 2 (some .boolean) :: wsL_law) ({ frames := 0, cells := 0, slots := 0, locals := 0 }) E (gsM, TM, cy, fun _ => True) ad D classes km265_c :=
  fx_sound (x := km265_x) (tb := t_X12_has) (an := km265_a) (sp := km265_s) (rk := 3) 12 h (fun _ _ _ _ _ _ => trivial) (fun _ _ _ _ _ _ => trivial) (ht_tys cy) (by decide) rfl ⟨fx_an, fx_an, fx_an, fx_an, fx_an, fx_an⟩ d_X12_has km265_k
-- X12_layWithout 0 i ('c', 2048)
def km266_c : fx_C := ([.inr (.inr 1), .inl (2048, 2048)], [], [(none, [.inr (.inr 1), .inl (2048, 2048)], [((0, 45), .inl (0, 11))])], [(12, 45), (1000, 27)])
def km266_a : List fx_N := [(7, [(2, .inl (0, 0)), (0, .inr (.inr 1)), (1, .inl (2048, 2048))], [((1, 45), .inl (0, 0))], [(0, 12)], [(0, 1), (1, 2)]), (7, [(2, .inl (1, 1)), (0, .inr (.inr 1)), (1, .inl (2048, 2048))], [((1, 45), .inl (1, 1)), ((1, 41), .inr (.inr 27)), ((4, 12), .inl (1, 12))], [(0, 11)], [(0, 1), (1, 2)]), (7, [(2, .inl (2, 2)), (0, .inr (.inr 1)), (1, .inl (2048, 2048))], [((1, 45), .inl (2, 2)), ((1, 41), .inr (.inr 27)), ((4, 12), .inl (2, 12))], [(0, 10)], [(0, 1), (1, 2)]), (7, [(2, .inl (3, 3)), (0, .inr (.inr 1)), (1, .inl (2048, 2048))], [((1, 45), .inl (3, 3)), ((1, 41), .inr (.inr 27)), ((4, 12), .inl (3, 12))], [(0, 9)], [(0, 1), (1, 2)]), (7, [(2, .inl (4, 4)), (0, .inr (.inr 1)), (1, .inl (2048, 2048))], [((1, 45), .inl (4, 4)), ((1, 41), .inr (.inr 27)), ((4, 12), .inl (4, 12))], [(0, 8)], [(0, 1), (1, 2)]), (7, [(2, .inl (5, 5)), (0, .inr (.inr 1)), (1, .inl (2048, 2048))], [((1, 45), .inl (5, 5)), ((1, 41), .inr (.inr 27)), ((4, 12), .inl (5, 12))], [(0, 7)], [(0, 1), (1, 2)]), (7, [(2, .inl (6, 6)), (0, .inr (.inr 1)), (1, .inl (2048, 2048))], [((1, 45), .inl (6, 6)), ((1, 41), .inr (.inr 27)), ((4, 12), .inl (6, 12))], [(0, 6)], [(0, 1), (1, 2)]), (7, [(2, .inl (7, 7)), (0, .inr (.inr 1)), (1, .inl (2048, 2048))], [((1, 45), .inl (7, 7)), ((1, 41), .inr (.inr 27)), ((4, 12), .inl (7, 12))], [(0, 5)], [(0, 1), (1, 2)]), (7, [(2, .inl (8, 8)), (0, .inr (.inr 1)), (1, .inl (2048, 2048))], [((1, 45), .inl (8, 8)), ((1, 41), .inr (.inr 27)), ((4, 12), .inl (8, 12))], [(0, 4)], [(0, 1), (1, 2)]), (7, [(2, .inl (9, 9)), (0, .inr (.inr 1)), (1, .inl (2048, 2048))], [((1, 45), .inl (9, 9)), ((1, 41), .inr (.inr 27)), ((4, 12), .inl (9, 12))], [(0, 3)], [(0, 1), (1, 2)]), (7, [(2, .inl (10, 10)), (0, .inr (.inr 1)), (1, .inl (2048, 2048))], [((1, 45), .inl (10, 10)), ((1, 41), .inr (.inr 27)), ((4, 12), .inl (10, 12))], [(0, 2)], [(0, 1), (1, 2)]), (7, [(2, .inl (11, 11)), (0, .inr (.inr 1)), (1, .inl (2048, 2048))], [((1, 45), .inl (11, 11)), ((1, 41), .inr (.inr 27)), ((4, 12), .inl (11, 12))], [(0, 1)], [(0, 1), (1, 2)]), (7, [(2, .inl (12, 12)), (0, .inr (.inr 1)), (1, .inl (2048, 2048))], [((1, 45), .inl (11, 11)), ((1, 41), .inr (.inr 27)), ((4, 12), .inl (12, 12))], [(0, 0)], [(0, 1), (1, 2)])]
def km266_s : List fx_D := []
def km266_x : fx_X := ([], [(92, 12, 41), (95, 12, 42), (384, 12, 45)], [(384, 12, 45, 0)], [], [], [(20, 474, 1000, km254_c), (20, 474, 1000, km255_c), (20, 474, 1000, km256_c), (20, 474, 1000, km257_c), (20, 474, 1000, km258_c), (20, 474, 1000, km259_c), (20, 474, 1000, km260_c), (20, 474, 1000, km261_c), (20, 474, 1000, km262_c), (20, 474, 1000, km263_c), (20, 474, 1000, km264_c), (20, 474, 1000, km265_c)])
set_option maxRecDepth 100000 in
theorem km266_k : fx_chk TM 3 km266_c 9 km266_x t_X12_layWithout km266_a km266_s 32 = true := by decide +kernel
set_option maxRecDepth 100000 in
theorem km266 {l : Launch} {E : (Nat → Prop) → State → Prop} {ad : List Nat} {D : va_G} {cy : Nat → ClassId} (h : fx_env E D classes (tys cy) nestW) : fx_Met l yX12_layWithout (.code yX12_layWithout cX12_layWithout 3 none :: wsL_law) ({ frames := 1, cells := 0, slots := 0, locals := 21 }) E (gsM, TM, cy, fun _ => True) ad D classes km266_c :=
  fx_sound (x := km266_x) (tb := t_X12_layWithout) (an := km266_a) (sp := km266_s) (rk := 9) 32 h (fun _ _ _ _ _ _ => trivial) (fun _ _ _ _ _ _ => trivial) (ht_tys cy) (by decide) rfl ⟨fx_an, (fx_ac fl_X12_92 (fx_ac fl_X12_95 (fx_ac fl_X12_384 (fx_an)))), (fx_ac pl_X12_384 (fx_an)), fx_an, fx_an, (fx_ac (ev_S (km254 h) ⟨by decide, by decide⟩ iS_X12_has g_X12_474) (fx_ac (ev_S (km255 h) ⟨by decide, by decide⟩ iS_X12_has g_X12_474) (fx_ac (ev_S (km256 h) ⟨by decide, by decide⟩ iS_X12_has g_X12_474) (fx_ac (ev_S (km257 h) ⟨by decide, by decide⟩ iS_X12_has g_X12_474) (fx_ac (ev_S (km258 h) ⟨by decide, by decide⟩ iS_X12_has g_X12_474) (fx_ac (ev_S (km259 h) ⟨by decide, by decide⟩ iS_X12_has g_X12_474) (fx_ac (ev_S (km260 h) ⟨by decide, by decide⟩ iS_X12_has g_X12_474) (fx_ac (ev_S (km261 h) ⟨by decide, by decide⟩ iS_X12_has g_X12_474) (fx_ac (ev_S (km262 h) ⟨by decide, by decide⟩ iS_X12_has g_X12_474) (fx_ac (ev_S (km263 h) ⟨by decide, by decide⟩ iS_X12_has g_X12_474) (fx_ac (ev_S (km264 h) ⟨by decide, by decide⟩ iS_X12_has g_X12_474) (fx_ac (ev_S (km265 h) ⟨by decide, by decide⟩ iS_X12_has g_X12_474) (fx_an)))))))))))))⟩ d_X12_layWithout km266_k
