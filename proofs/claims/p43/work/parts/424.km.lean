-- X12_has i i ('c', 64) ('c', 11)
def km250_c : fx_C := ([.inl (64, 64), .inl (11, 11)], [], [(some (.inl (0, 0)), [.inl (64, 64), .inl (11, 11)], [])], [])
def km250_a : List fx_N := []
def km250_s : List fx_D := []
def km250_x : fx_X := ([], [], [], [], [], [])
set_option maxRecDepth 100000 in
theorem km250_k : fx_chk TM 2 km250_c 3 km250_x t_X12_has km250_a km250_s 11 = true := by decide +kernel
set_option maxRecDepth 100000 in
theorem km250 {l : Launch} {E : (Nat → Prop) → State → Prop} {ad : List Nat} {D : va_G} {cy : Nat → ClassId} (h : fx_env E D classes (tys cy) nestW) : fx_Met l yX12_has (.code yX12_has cX12_has 2 (some .boolean) :: wsL_law) ({ frames := 0, cells := 0, slots := 0, locals := 0 }) E (gsM, TM, cy, fun _ => True) ad D classes km250_c :=
  fx_sound (x := km250_x) (tb := t_X12_has) (an := km250_a) (sp := km250_s) (rk := 3) 11 h (fun _ _ _ _ _ _ => trivial) (fun _ _ _ _ _ _ => trivial) (ht_tys cy) (by decide) rfl ⟨fx_an, fx_an, fx_an, fx_an, fx_an, fx_an⟩ d_X12_has km250_k
-- X12_layWithout 0 i ('c', 64)
def km251_c : fx_C := ([.inr (.inr 1), .inl (64, 64)], [], [(none, [.inr (.inr 1), .inl (64, 64)], [((0, 45), .inl (0, 11))])], [(12, 45), (1000, 43)])
def km251_a : List fx_N := [(7, [(2, .inl (0, 0)), (0, .inr (.inr 1)), (1, .inl (64, 64))], [((1, 45), .inl (0, 0))], [(0, 12)], [(0, 1), (1, 2)]), (7, [(2, .inl (1, 1)), (0, .inr (.inr 1)), (1, .inl (64, 64))], [((1, 45), .inl (1, 1)), ((1, 41), .inr (.inr 43)), ((4, 12), .inl (1, 12))], [(0, 11)], [(0, 1), (1, 2)]), (7, [(2, .inl (2, 2)), (0, .inr (.inr 1)), (1, .inl (64, 64))], [((1, 45), .inl (2, 2)), ((1, 41), .inr (.inr 43)), ((4, 12), .inl (2, 12))], [(0, 10)], [(0, 1), (1, 2)]), (7, [(2, .inl (3, 3)), (0, .inr (.inr 1)), (1, .inl (64, 64))], [((1, 45), .inl (3, 3)), ((1, 41), .inr (.inr 43)), ((4, 12), .inl (3, 12))], [(0, 9)], [(0, 1), (1, 2)]), (7, [(2, .inl (4, 4)), (0, .inr (.inr 1)), (1, .inl (64, 64))], [((1, 45), .inl (4, 4)), ((1, 41), .inr (.inr 43)), ((4, 12), .inl (4, 12))], [(0, 8)], [(0, 1), (1, 2)]), (7, [(2, .inl (5, 5)), (0, .inr (.inr 1)), (1, .inl (64, 64))], [((1, 45), .inl (5, 5)), ((1, 41), .inr (.inr 43)), ((4, 12), .inl (5, 12))], [(0, 7)], [(0, 1), (1, 2)]), (7, [(2, .inl (6, 6)), (0, .inr (.inr 1)), (1, .inl (64, 64))], [((1, 45), .inl (6, 6)), ((1, 41), .inr (.inr 43)), ((4, 12), .inl (6, 12))], [(0, 6)], [(0, 1), (1, 2)]), (7, [(2, .inl (7, 7)), (0, .inr (.inr 1)), (1, .inl (64, 64))], [((1, 45), .inl (6, 6)), ((1, 41), .inr (.inr 43)), ((4, 12), .inl (7, 12))], [(0, 5)], [(0, 1), (1, 2)]), (7, [(2, .inl (8, 8)), (0, .inr (.inr 1)), (1, .inl (64, 64))], [((1, 45), .inl (7, 7)), ((1, 41), .inr (.inr 43)), ((4, 12), .inl (8, 12))], [(0, 4)], [(0, 1), (1, 2)]), (7, [(2, .inl (9, 9)), (0, .inr (.inr 1)), (1, .inl (64, 64))], [((1, 45), .inl (8, 8)), ((1, 41), .inr (.inr 43)), ((4, 12), .inl (9, 12))], [(0, 3)], [(0, 1), (1, 2)]), (7, [(2, .inl (10, 10)), (0, .inr (.inr 1)), (1, .inl (64, 64))], [((1, 45), .inl (9, 9)), ((1, 41), .inr (.inr 43)), ((4, 12), .inl (10, 12))], [(0, 2)], [(0, 1), (1, 2)]), (7, [(2, .inl (11, 11)), (0, .inr (.inr 1)), (1, .inl (64, 64))], [((1, 45), .inl (10, 10)), ((1, 41), .inr (.inr 43)), ((4, 12), .inl (11, 12))], [(0, 1)], [(0, 1), (1, 2)]), (7, [(2, .inl (12, 12)), (0, .inr (.inr 1)), (1, .inl (64, 64))], [((1, 45), .inl (11, 11)), ((1, 41), .inr (.inr 43)), ((4, 12), .inl (12, 12))], [(0, 0)], [(0, 1), (1, 2)])]
def km251_s : List fx_D := []
def km251_x : fx_X := ([], [(92, 12, 41), (95, 12, 42), (384, 12, 45)], [(384, 12, 45, 0)], [], [], [(20, 474, 1000, km239_c), (20, 474, 1000, km240_c), (20, 474, 1000, km241_c), (20, 474, 1000, km242_c), (20, 474, 1000, km243_c), (20, 474, 1000, km244_c), (20, 474, 1000, km245_c), (20, 474, 1000, km246_c), (20, 474, 1000, km247_c), (20, 474, 1000, km248_c), (20, 474, 1000, km249_c), (20, 474, 1000, km250_c)])
set_option maxRecDepth 100000 in
theorem km251_k : fx_chk TM 3 km251_c 9 km251_x t_X12_layWithout km251_a km251_s 32 = true := by decide +kernel
set_option maxRecDepth 100000 in
theorem km251 {l : Launch} {E : (Nat → Prop) → State → Prop} {ad : List Nat} {D : va_G} {cy : Nat → ClassId} (h : fx_env E D classes (tys cy) nestW) : fx_Met l yX12_layWithout (.code yX12_layWithout cX12_layWithout 3 none :: wsL_law) ({ frames := 1, cells := 0, slots := 0, locals := 21 }) E (gsM, TM, cy, fun _ => True) ad D classes km251_c :=
  fx_sound (x := km251_x) (tb := t_X12_layWithout) (an := km251_a) (sp := km251_s) (rk := 9) 32 h (fun _ _ _ _ _ _ => trivial) (fun _ _ _ _ _ _ => trivial) (ht_tys cy) (by decide) rfl ⟨fx_an, (fx_ac fl_X12_92 (fx_ac fl_X12_95 (fx_ac fl_X12_384 (fx_an)))), (fx_ac pl_X12_384 (fx_an)), fx_an, fx_an, (fx_ac (ev_S (km239 h) ⟨by decide, by decide⟩ iS_X12_has g_X12_474) (fx_ac (ev_S (km240 h) ⟨by decide, by decide⟩ iS_X12_has g_X12_474) (fx_ac (ev_S (km241 h) ⟨by decide, by decide⟩ iS_X12_has g_X12_474) (fx_ac (ev_S (km242 h) ⟨by decide, by decide⟩ iS_X12_has g_X12_474) (fx_ac (ev_S (km243 h) ⟨by decide, by decide⟩ iS_X12_has g_X12_474) (fx_ac (ev_S (km244 h) ⟨by decide, by decide⟩ iS_X12_has g_X12_474) (fx_ac (ev_S (km245 h) ⟨by decide, by decide⟩ iS_X12_has g_X12_474) (fx_ac (ev_S (km246 h) ⟨by decide, by decide⟩ iS_X12_has g_X12_474) (fx_ac (ev_S (km247 h) ⟨by decide, by decide⟩ iS_X12_has g_X12_474) (fx_ac (ev_S (km248 h) ⟨by decide, by decide⟩ iS_X12_has g_X12_474) (fx_ac (ev_S (km249 h) ⟨by decide, by decide⟩ iS_X12_has g_X12_474) (fx_ac (ev_S (km250 h) ⟨by decide, by decide⟩ iS_X12_has g_X12_474) (fx_an)))))))))))))⟩ d_X12_layWithout km251_k
-- X12_has i i ('c', 128) ('c', 0)
def km252_c : fx_C := ([.inl (128, 128), .inl (0, 0)], [], [(some (.inl (0, 0)), [.inl (128, 128), .inl (0, 0)], [])], [])
def km252_a : List fx_N := []
def km252_s : List fx_D := []
def km252_x : fx_X := ([], [], [], [], [], [])
set_option maxRecDepth 100000 in
theorem km252_k : fx_chk TM 2 km252_c 3 km252_x t_X12_has km252_a km252_s 11 = true := by decide +kernel
set_option maxRecDepth 100000 in
theorem km252 {l : Launch} {E : (Nat → Prop) → State → Prop} {ad : List Nat} {D : va_G} {cy : Nat → ClassId} (h : fx_env E D classes (tys cy) nestW) : fx_Met l yX12_has (.code yX12_has cX12_has 2 (some .boolean) :: wsL_law) ({ frames := 0, cells := 0, slots := 0, locals := 0 }) E (gsM, TM, cy, fun _ => True) ad D classes km252_c :=
  fx_sound (x := km252_x) (tb := t_X12_has) (an := km252_a) (sp := km252_s) (rk := 3) 11 h (fun _ _ _ _ _ _ => trivial) (fun _ _ _ _ _ _ => trivial) (ht_tys cy) (by decide) rfl ⟨fx_an, fx_an, fx_an, fx_an, fx_an, fx_an⟩ d_X12_has km252_k
-- X12_has i i ('c', 128) ('c', 1)
def km253_c : fx_C := ([.inl (128, 128), .inl (1, 1)], [], [(some (.inl (0, 0)), [.inl (128, 128), .inl (1, 1)], [])], [])
def km253_a : List fx_N := []
def km253_s : List fx_D := []
def km253_x : fx_X := ([], [], [], [], [], [])
set_option maxRecDepth 100000 in
theorem km253_k : fx_chk TM 2 km253_c 3 km253_x t_X12_has km253_a km253_s 11 = true := by decide +kernel
set_option maxRecDepth 100000 in
theorem km253 {l : Launch} {E : (Nat → Prop) → State → Prop} {ad : List Nat} {D : va_G} {cy : Nat → ClassId} (h : fx_env E D classes (tys cy) nestW) : fx_Met l yX12_has (.code yX12_has cX12_has 2 (some .boolean) :: wsL_law) ({ frames := 0, cells := 0, slots := 0, locals := 0 }) E (gsM, TM, cy, fun _ => True) ad D classes km253_c :=
  fx_sound (x := km253_x) (tb := t_X12_has) (an := km253_a) (sp := km253_s) (rk := 3) 11 h (fun _ _ _ _ _ _ => trivial) (fun _ _ _ _ _ _ => trivial) (ht_tys cy) (by decide) rfl ⟨fx_an, fx_an, fx_an, fx_an, fx_an, fx_an⟩ d_X12_has km253_k
-- X12_has i i ('c', 128) ('c', 2)
def km254_c : fx_C := ([.inl (128, 128), .inl (2, 2)], [], [(some (.inl (0, 0)), [.inl (128, 128), .inl (2, 2)], [])], [])
def km254_a : List fx_N := []
def km254_s : List fx_D := []
def km254_x : fx_X := ([], [], [], [], [], [])
set_option maxRecDepth 100000 in
theorem km254_k : fx_chk TM 2 km254_c 3 km254_x t_X12_has km254_a km254_s 11 = true := by decide +kernel
set_option maxRecDepth 100000 in
theorem km254 {l : Launch} {E : (Nat → Prop) → State → Prop} {ad : List Nat} {D : va_G} {cy : Nat → ClassId} (h : fx_env E D classes (tys cy) nestW) : fx_Met l yX12_has (.code yX12_has cX12_has 2 (some .boolean) :: wsL_law) ({ frames := 0, cells := 0, slots := 0, locals := 0 }) E (gsM, TM, cy, fun _ => True) ad D classes km254_c :=
  fx_sound (x := km254_x) (tb := t_X12_has) (an := km254_a) (sp := km254_s) (rk := 3) 11 h (fun _ _ _ _ _ _ => trivial) (fun _ _ _ _ _ _ => trivial) (ht_tys cy) (by decide) rfl ⟨fx_an, fx_an, fx_an, fx_an, fx_an, fx_an⟩ d_X12_has km254_k
-- X12_has i i ('c', 128) ('c', 3)
def km255_c : fx_C := ([.inl (128, 128), .inl (3, 3)], [], [(some (.inl (0, 0)), [.inl (128, 128), .inl (3, 3)], [])], [])
def km255_a : List fx_N := []
def km255_s : List fx_D := []
def km255_x : fx_X := ([], [], [], [], [], [])
set_option maxRecDepth 100000 in
theorem km255_k : fx_chk TM 2 km255_c 3 km255_x t_X12_has km255_a km255_s 11 = true := by decide +kernel
set_option maxRecDepth 100000 in
theorem km255 {l : Launch} {E : (Nat → Prop) → State → Prop} {ad : List Nat} {D : va_G} {cy : Nat → ClassId} (h : fx_env E D classes (tys cy) nestW) : fx_Met l yX12_has (.code yX12_has cX12_has 2 (some .boolean) :: wsL_law) ({ frames := 0, cells := 0, slots := 0, locals := 0 }) E (gsM, TM, cy, fun _ => True) ad D classes km255_c :=
  fx_sound (x := km255_x) (tb := t_X12_has) (an := km255_a) (sp := km255_s) (rk := 3) 11 h (fun _ _ _ _ _ _ => trivial) (fun _ _ _ _ _ _ => trivial) (ht_tys cy) (by decide) rfl ⟨fx_an, fx_an, fx_an, fx_an, fx_an, fx_an⟩ d_X12_has km255_k
-- X12_has i i ('c', 128) ('c', 4)
def km256_c : fx_C := ([.inl (128, 128), .inl (4, 4)], [], [(some (.inl (0, 0)), [.inl (128, 128), .inl (4, 4)], [])], [])
def km256_a : List fx_N := []
def km256_s : List fx_D := []
def km256_x : fx_X := ([], [], [], [], [], [])
set_option maxRecDepth 100000 in
theorem km256_k : fx_chk TM 2 km256_c 3 km256_x t_X12_has km256_a km256_s 11 = true := by decide +kernel
set_option maxRecDepth 100000 in
theorem km256 {l : Launch} {E : (Nat → Prop) → State → Prop} {ad : List Nat} {D : va_G} {cy : Nat → ClassId} (h : fx_env E D classes (tys cy) nestW) : fx_Met l yX12_has (.code yX12_has cX12_has 2 (some .boolean) :: wsL_law) ({ frames := 0, cells := 0, slots := 0, locals := 0 }) E (gsM, TM, cy, fun _ => True) ad D classes km256_c :=
  fx_sound (x := km256_x) (tb := t_X12_has) (an := km256_a) (sp := km256_s) (rk := 3) 11 h (fun _ _ _ _ _ _ => trivial) (fun _ _ _ _ _ _ => trivial) (ht_tys cy) (by decide) rfl ⟨fx_an, fx_an, fx_an, fx_an, fx_an, fx_an⟩ d_X12_has km256_k
-- X12_has i i ('c', 128) ('c', 5)
def km257_c : fx_C := ([.inl (128, 128), .inl (5, 5)], [], [(some (.inl (0, 0)), [.inl (128, 128), .inl (5, 5)], [])], [])
def km257_a : List fx_N := []
def km257_s : List fx_D := []
def km257_x : fx_X := ([], [], [], [], [], [])
set_option maxRecDepth 100000 in
theorem km257_k : fx_chk TM 2 km257_c 3 km257_x t_X12_has km257_a km257_s 11 = true := by decide +kernel
set_option maxRecDepth 100000 in
theorem km257 {l : Launch} {E : (Nat → Prop) → State → Prop} {ad : List Nat} {D : va_G} {cy : Nat → ClassId} (h : fx_env E D classes (tys cy) nestW) : fx_Met l yX12_has (.code yX12_has cX12_has 2 (some .boolean) :: wsL_law) ({ frames := 0, cells := 0, slots := 0, locals := 0 }) E (gsM, TM, cy, fun _ => True) ad D classes km257_c :=
  fx_sound (x := km257_x) (tb := t_X12_has) (an := km257_a) (sp := km257_s) (rk := 3) 11 h (fun _ _ _ _ _ _ => trivial) (fun _ _ _ _ _ _ => trivial) (ht_tys cy) (by decide) rfl ⟨fx_an, fx_an, fx_an, fx_an, fx_an, fx_an⟩ d_X12_has km257_k
-- X12_has i i ('c', 128) ('c', 6)
def km258_c : fx_C := ([.inl (128, 128), .inl (6, 6)], [], [(some (.inl (0, 0)), [.inl (128, 128), .inl (6, 6)], [])], [])
def km258_a : List fx_N := []
def km258_s : List fx_D := []
def km258_x : fx_X := ([], [], [], [], [], [])
set_option maxRecDepth 100000 in
theorem km258_k : fx_chk TM 2 km258_c 3 km258_x t_X12_has km258_a km258_s 11 = true := by decide +kernel
set_option maxRecDepth 100000 in
theorem km258 {l : Launch} {E : (Nat → Prop) → State → Prop} {ad : List Nat} {D : va_G} {cy : Nat → ClassId} (h : fx_env E D classes (tys cy) nestW) : fx_Met l yX12_has (.code yX12_has cX12_has 2 (some .boolean) :: wsL_law) ({ frames := 0, cells := 0, slots := 0, locals := 0 }) E (gsM, TM, cy, fun _ => True) ad D classes km258_c :=
  fx_sound (x := km258_x) (tb := t_X12_has) (an := km258_a) (sp := km258_s) (rk := 3) 11 h (fun _ _ _ _ _ _ => trivial) (fun _ _ _ _ _ _ => trivial) (ht_tys cy) (by decide) rfl ⟨fx_an, fx_an, fx_an, fx_an, fx_an, fx_an⟩ d_X12_has km258_k
-- X12_has i i ('c', 128) ('c', 7)
def km259_c : fx_C := ([.inl (128, 128), .inl (7, 7)], [], [(some (.inl (1, 1)), [.inl (128, 128), .inl (7, 7)], [])], [])
def km259_a : List fx_N := []
def km259_s : List fx_D := []
def km259_x : fx_X := ([], [], [], [], [], [])
set_option maxRecDepth 100000 in
theorem km259_k : fx_chk TM 2 km259_c 3 km259_x t_X12_has km259_a km259_s 12 = true := by decide +kernel
set_option maxRecDepth 100000 in
theorem km259 {l : Launch} {E : (Nat → Prop) → State → Prop} {ad : List Nat} {D : va_G} {cy : Nat → ClassId} (h : fx_env E D classes (tys cy) nestW) : fx_Met l yX12_has (.code yX12_has cX12_has 2 (some .boolean) :: wsL_law) ({ frames := 0, cells := 0, slots := 0, locals := 0 }) E (gsM, TM, cy, fun _ => True) ad D classes km259_c :=
  fx_sound (x := km259_x) (tb := t_X12_has) (an := km259_a) (sp := km259_s) (rk := 3) 12 h (fun _ _ _ _ _ _ => trivial) (fun _ _ _ _ _ _ => trivial) (ht_tys cy) (by decide) rfl ⟨fx_an, fx_an, fx_an, fx_an, fx_an, fx_an⟩ d_X12_has km259_k
-- X12_has i i ('c', 128) ('c', 8)
def km260_c : fx_C := ([.inl (128, 128), .inl (8, 8)], [], [(some (.inl (0, 0)), [.inl (128, 128), .inl (8, 8)], [])], [])
def km260_a : List fx_N := []
def km260_s : List fx_D := []
def km260_x : fx_X := ([], [], [], [], [], [])
set_option maxRecDepth 100000 in
theorem km260_k : fx_chk TM 2 km260_c 3 km260_x t_X12_has km260_a km260_s 11 = true := by decide +kernel
set_option maxRecDepth 100000 in
theorem km260 {l : Launch} {E : (Nat → Prop) → State → Prop} {ad : List Nat} {D : va_G} {cy : Nat → ClassId} (h : fx_env E D classes (tys cy) nestW) : fx_Met l yX12_has (.code yX12_has cX12_has 2 (some .boolean) :: wsL_law) ({ frames := 0, cells := 0, slots := 0, locals := 0 }) E (gsM, TM, cy, fun _ => True) ad D classes km260_c :=
  fx_sound (x := km260_x) (tb := t_X12_has) (an := km260_a) (sp := km260_s) (rk := 3) 11 h (fun _ _ _ _ _ _ => trivial) (fun _ _ _ _ _ _ => trivial) (ht_tys cy) (by decide) rfl ⟨fx_an, fx_an, fx_an, fx_an, fx_an, fx_an⟩ d_X12_has km260_k
-- X12_has i i ('c', 128) ('c', 9)
def km261_c : fx_C := ([.inl (128, 128), .inl (9, 9)], [], [(some (.inl (0, 0)), [.inl (128, 128), .inl (9, 9)], [])], [])
def km261_a : List fx_N := []
def km261_s : List fx_D := []
def km261_x : fx_X := ([], [], [], [], [], [])
set_option maxRecDepth 100000 in
theorem km261_k : fx_chk TM 2 km261_c 3 km261_x t_X12_has km261_a km261_s 11 = true := by decide +kernel
set_option maxRecDepth 100000 in
theorem km261 {l : Launch} {E : (Nat → Prop) → State → Prop} {ad : List Nat} {D : va_G} {cy : Nat → ClassId} (h : fx_env E D classes (tys cy) nestW) : fx_Met l yX12_has (.code yX12_has cX12_has 2 (some .boolean) :: wsL_law) ({ frames := 0, cells := 0, slots := 0, locals := 0 }) E (gsM, TM, cy, fun _ => True) ad D classes km261_c :=
  fx_sound (x := km261_x) (tb := t_X12_has) (an := km261_a) (sp := km261_s) (rk := 3) 11 h (fun _ _ _ _ _ _ => trivial) (fun _ _ _ _ _ _ => trivial) (ht_tys cy) (by decide) rfl ⟨fx_an, fx_an, fx_an, fx_an, fx_an, fx_an⟩ d_X12_has km261_k
-- X12_has i i ('c', 128) ('c', 10)
def km262_c : fx_C := ([.inl (128, 128), .inl (10, 10)], [], [(some (.inl (0, 0)), [.inl (128, 128), .inl (10, 10)], [])], [])
def km262_a : List fx_N := []
def km262_s : List fx_D := []
def km262_x : fx_X := ([], [], [], [], [], [])
set_option maxRecDepth 100000 in
theorem km262_k : fx_chk TM 2 km262_c 3 km262_x t_X12_has km262_a km262_s 11 = true := by decide +kernel
set_option maxRecDepth 100000 in
theorem km262 {l : Launch} {E : (Nat → Prop) → State → Prop} {ad : List Nat} {D : va_G} {cy : Nat → ClassId} (h : fx_env E D classes (tys cy) nestW) : fx_Met l yX12_has (.code yX12_has cX12_has 2 (some .boolean) :: wsL_law) ({ frames := 0, cells := 0, slots := 0, locals := 0 }) E (gsM, TM, cy, fun _ => True) ad D classes km262_c :=
  fx_sound (x := km262_x) (tb := t_X12_has) (an := km262_a) (sp := km262_s) (rk := 3) 11 h (fun _ _ _ _ _ _ => trivial) (fun _ _ _ _ _ _ => trivial) (ht_tys cy) (by decide) rfl ⟨fx_an, fx_an, fx_an, fx_an, fx_an, fx_an⟩ d_X12_has km262_k
-- X12_has i i ('c', 128) ('c', 11)
def km263_c : fx_C := ([.inl (128, 128), .inl (11, 11)], [], [(some (.inl (0, 0)), [.inl (128, 128), .inl (11, 11)], [])], [])
def km263_a : List fx_N := []
def km263_s : List fx_D := []
def km263_x : fx_X := ([], [], [], [], [], [])
set_option maxRecDepth 100000 in
theorem km263_k : fx_chk TM 2 km263_c 3 km263_x t_X12_has km263_a km263_s 11 = true := by decide +kernel
set_option maxRecDepth 100000 in
theorem km263 {l : Launch} {E : (Nat → Prop) → State → Prop} {ad : List Nat} {D : va_G} {cy : Nat → ClassId} (h : fx_env E D classes (tys cy) nestW) : fx_Met l yX12_has (.code yX12_has cX12_has 2 (some .boolean) :: wsL_law) ({ frames := 0, cells := 0, slots := 0, locals := 0 }) E (gsM, TM, cy, fun _ => True) ad D classes km263_c :=
  fx_sound (x := km263_x) (tb := t_X12_has) (an := km263_a) (sp := km263_s) (rk := 3) 11 h (fun _ _ _ _ _ _ => trivial) (fun _ _ _ _ _ _ => trivial) (ht_tys cy) (by decide) rfl ⟨fx_an, fx_an, fx_an, fx_an, fx_an, fx_an⟩ d_X12_has km263_k
-- X12_layWithout 0 i ('c', 128)
def km264_c : fx_C := ([.inr (.inr 1), .inl (128, 128)], [], [(none, [.inr (.inr 1), .inl (128, 128)], [((0, 45), .inl (0, 11))])], [(12, 45), (1000, 43)])
def km264_a : List fx_N := [(7, [(2, .inl (0, 0)), (0, .inr (.inr 1)), (1, .inl (128, 128))], [((1, 45), .inl (0, 0))], [(0, 12)], [(0, 1), (1, 2)]), (7, [(2, .inl (1, 1)), (0, .inr (.inr 1)), (1, .inl (128, 128))], [((1, 45), .inl (1, 1)), ((1, 41), .inr (.inr 43)), ((4, 12), .inl (1, 12))], [(0, 11)], [(0, 1), (1, 2)]), (7, [(2, .inl (2, 2)), (0, .inr (.inr 1)), (1, .inl (128, 128))], [((1, 45), .inl (2, 2)), ((1, 41), .inr (.inr 43)), ((4, 12), .inl (2, 12))], [(0, 10)], [(0, 1), (1, 2)]), (7, [(2, .inl (3, 3)), (0, .inr (.inr 1)), (1, .inl (128, 128))], [((1, 45), .inl (3, 3)), ((1, 41), .inr (.inr 43)), ((4, 12), .inl (3, 12))], [(0, 9)], [(0, 1), (1, 2)]), (7, [(2, .inl (4, 4)), (0, .inr (.inr 1)), (1, .inl (128, 128))], [((1, 45), .inl (4, 4)), ((1, 41), .inr (.inr 43)), ((4, 12), .inl (4, 12))], [(0, 8)], [(0, 1), (1, 2)]), (7, [(2, .inl (5, 5)), (0, .inr (.inr 1)), (1, .inl (128, 128))], [((1, 45), .inl (5, 5)), ((1, 41), .inr (.inr 43)), ((4, 12), .inl (5, 12))], [(0, 7)], [(0, 1), (1, 2)]), (7, [(2, .inl (6, 6)), (0, .inr (.inr 1)), (1, .inl (128, 128))], [((1, 45), .inl (6, 6)), ((1, 41), .inr (.inr 43)), ((4, 12), .inl (6, 12))], [(0, 6)], [(0, 1), (1, 2)]), (7, [(2, .inl (7, 7)), (0, .inr (.inr 1)), (1, .inl (128, 128))], [((1, 45), .inl (7, 7)), ((1, 41), .inr (.inr 43)), ((4, 12), .inl (7, 12))], [(0, 5)], [(0, 1), (1, 2)]), (7, [(2, .inl (8, 8)), (0, .inr (.inr 1)), (1, .inl (128, 128))], [((1, 45), .inl (7, 7)), ((1, 41), .inr (.inr 43)), ((4, 12), .inl (8, 12))], [(0, 4)], [(0, 1), (1, 2)]), (7, [(2, .inl (9, 9)), (0, .inr (.inr 1)), (1, .inl (128, 128))], [((1, 45), .inl (8, 8)), ((1, 41), .inr (.inr 43)), ((4, 12), .inl (9, 12))], [(0, 3)], [(0, 1), (1, 2)]), (7, [(2, .inl (10, 10)), (0, .inr (.inr 1)), (1, .inl (128, 128))], [((1, 45), .inl (9, 9)), ((1, 41), .inr (.inr 43)), ((4, 12), .inl (10, 12))], [(0, 2)], [(0, 1), (1, 2)]), (7, [(2, .inl (11, 11)), (0, .inr (.inr 1)), (1, .inl (128, 128))], [((1, 45), .inl (10, 10)), ((1, 41), .inr (.inr 43)), ((4, 12), .inl (11, 12))], [(0, 1)], [(0, 1), (1, 2)]), (7, [(2, .inl (12, 12)), (0, .inr (.inr 1)), (1, .inl (128, 128))], [((1, 45), .inl (11, 11)), ((1, 41), .inr (.inr 43)), ((4, 12), .inl (12, 12))], [(0, 0)], [(0, 1), (1, 2)])]
def km264_s : List fx_D := []
def km264_x : fx_X := ([], [(92, 12, 41), (95, 12, 42), (384, 12, 45)], [(384, 12, 45, 0)], [], [], [(20, 474, 1000, km252_c), (20, 474, 1000, km253_c), (20, 474, 1000, km254_c), (20, 474, 1000, km255_c), (20, 474, 1000, km256_c), (20, 474, 1000, km257_c), (20, 474, 1000, km258_c), (20, 474, 1000, km259_c), (20, 474, 1000, km260_c), (20, 474, 1000, km261_c), (20, 474, 1000, km262_c), (20, 474, 1000, km263_c)])
set_option maxRecDepth 100000 in
theorem km264_k : fx_chk TM 3 km264_c 9 km264_x t_X12_layWithout km264_a km264_s 32 = true := by decide +kernel
set_option maxRecDepth 100000 in
theorem km264 {l : Launch} {E : (Nat → Prop) → State → Prop} {ad : List Nat} {D : va_G} {cy : Nat → ClassId} (h : fx_env E D classes (tys cy) nestW) : fx_Met l yX12_layWithout (.code yX12_layWithout cX12_layWithout 3 none :: wsL_law) ({ frames := 1, cells := 0, slots := 0, locals := 21 }) E (gsM, TM, cy, fun _ => True) ad D classes km264_c :=
  fx_sound (x := km264_x) (tb := t_X12_layWithout) (an := km264_a) (sp := km264_s) (rk := 9) 32 h (fun _ _ _ _ _ _ => trivial) (fun _ _ _ _ _ _ => trivial) (ht_tys cy) (by decide) rfl ⟨fx_an, (fx_ac fl_X12_92 (fx_ac fl_X12_95 (fx_ac fl_X12_384 (fx_an)))), (fx_ac pl_X12_384 (fx_an)), fx_an, fx_an, (fx_ac (ev_S (km252 h) ⟨by decide, by decide⟩ iS_X12_has g_X12_474) (fx_ac (ev_S (km253 h) ⟨by decide, by decide⟩ iS_X12_has g_X12_474) (fx_ac (ev_S (km254 h) ⟨by decide, by decide⟩ iS_X12_has g_X12_474) (fx_ac (ev_S (km255 h) ⟨by decide, by decide⟩ iS_X12_has g_X12_474) (fx_ac (ev_S (km256 h) ⟨by decide, by decide⟩ iS_X12_has g_X12_474) (fx_ac (ev_S (km257 h) ⟨by decide, by decide⟩ iS_X12_has g_X12_474) (fx_ac (ev_S (km258 h) ⟨by decide, by decide⟩ iS_X12_has g_X12_474) (fx_ac (ev_S (km259 h) ⟨by decide, by decide⟩ iS_X12_has g_X12_474) (fx_ac (ev_S (km260 h) ⟨by decide, by decide⟩ iS_X12_has g_X12_474) (fx_ac (ev_S (km261 h) ⟨by decide, by decide⟩ iS_X12_has g_X12_474) (fx_ac (ev_S (km262 h) ⟨by decide, by decide⟩ iS_X12_has g_X12_474) (fx_ac (ev_S (km263 h) ⟨by decide, by decide⟩ iS_X12_has g_X12_474) (fx_an)))))))))))))⟩ d_X12_layWithout km264_k
-- X12_has i i ('c', 256) ('c', 0)
def km265_c : fx_C := ([.inl (256, 256), .inl (0, 0)], [], [(some (.inl (0, 0)), [.inl (256, 256), .inl (0, 0)], [])], [])
def km265_a : List fx_N := []
def km265_s : List fx_D := []
def km265_x : fx_X := ([], [], [], [], [], [])
set_option maxRecDepth 100000 in
theorem km265_k : fx_chk TM 2 km265_c 3 km265_x t_X12_has km265_a km265_s 11 = true := by decide +kernel
set_option maxRecDepth 100000 in
theorem km265 {l : Launch} {E : (Nat → Prop) → State → Prop} {ad : List Nat} {D : va_G} {cy : Nat → ClassId} (h : fx_env E D classes (tys cy) nestW) : fx_Met l yX12_has (.code yX12_has cX12_has 2 (some .boolean) :: wsL_law) ({ frames := 0, cells := 0, slots := 0, locals := 0 }) E (gsM, TM, cy, fun _ => True) ad D classes km265_c :=
  fx_sound (x := km265_x) (tb := t_X12_has) (an := km265_a) (sp := km265_s) (rk := 3) 11 h (fun _ _ _ _ _ _ => trivial) (fun _ _ _ _ _ _ => trivial) (ht_tys cy) (by decide) rfl ⟨fx_an, fx_an, fx_an, fx_an, fx_an, fx_an⟩ d_X12_has km265_k
-- X12_has i i ('c', 256) ('c', 1)
def km266_c : fx_C := ([.inl (256, 256), .inl (1, 1)], [], [(some (.inl (0, 0)), [.inl (256, 256), .inl (1, 1)], [])], [])
def km266_a : List fx_N := []
def km266_s : List fx_D := []
def km266_x : fx_X := ([], [], [], [], [], [])
set_option maxRecDepth 100000 in
theorem km266_k : fx_chk TM 2 km266_c 3 km266_x t_X12_has km266_a km266_s 11 = true := by decide +kernel
set_option maxRecDepth 100000 in
theorem km266 {l : Launch} {E : (Nat → Prop) → State → Prop} {ad : List Nat} {D : va_G} {cy : Nat → ClassId} (h : fx_env E D classes (tys cy) nestW) : fx_Met l yX12_has (.code yX12_has cX12_has 2 (some .boolean) :: wsL_law) ({ frames := 0, cells := 0, slots := 0, locals := 0 }) E (gsM, TM, cy, fun _ => True) ad D classes km266_c :=
  fx_sound (x := km266_x) (tb := t_X12_has) (an := km266_a) (sp := km266_s) (rk := 3) 11 h (fun _ _ _ _ _ _ => trivial) (fun _ _ _ _ _ _ => trivial) (ht_tys cy) (by decide) rfl ⟨fx_an, fx_an, fx_an, fx_an, fx_an, fx_an⟩ d_X12_has km266_k
-- X12_has i i ('c', 256) ('c', 2)
def km267_c : fx_C := ([.inl (256, 256), .inl (2, 2)], [], [(some (.inl (0, 0)), [.inl (256, 256), .inl (2, 2)], [])], [])
def km267_a : List fx_N := []
def km267_s : List fx_D := []
def km267_x : fx_X := ([], [], [], [], [], [])
set_option maxRecDepth 100000 in
theorem km267_k : fx_chk TM 2 km267_c 3 km267_x t_X12_has km267_a km267_s 11 = true := by decide +kernel
set_option maxRecDepth 100000 in
theorem km267 {l : Launch} {E : (Nat → Prop) → State → Prop} {ad : List Nat} {D : va_G} {cy : Nat → ClassId} (h : fx_env E D classes (tys cy) nestW) : fx_Met l yX12_has (.code yX12_has cX12_has 2 (some .boolean) :: wsL_law) ({ frames := 0, cells := 0, slots := 0, locals := 0 }) E (gsM, TM, cy, fun _ => True) ad D classes km267_c :=
  fx_sound (x := km267_x) (tb := t_X12_has) (an := km267_a) (sp := km267_s) (rk := 3) 11 h (fun _ _ _ _ _ _ => trivial) (fun _ _ _ _ _ _ => trivial) (ht_tys cy) (by decide) rfl ⟨fx_an, fx_an, fx_an, fx_an, fx_an, fx_an⟩ d_X12_has km267_k
-- X12_has i i ('c', 256) ('c', 3)
def km268_c : fx_C := ([.inl (256, 256), .inl (3, 3)], [], [(some (.inl (0, 0)), [.inl (256, 256), .inl (3, 3)], [])], [])
def km268_a : List fx_N := []
def km268_s : List fx_D := []
def km268_x : fx_X := ([], [], [], [], [], [])
set_option maxRecDepth 100000 in
theorem km268_k : fx_chk TM 2 km268_c 3 km268_x t_X12_has km268_a km268_s 11 = true := by decide +kernel
set_option maxRecDepth 100000 in
theorem km268 {l : Launch} {E : (Nat → Prop) → State → Prop} {ad : List Nat} {D : va_G} {cy : Nat → ClassId} (h : fx_env E D classes (tys cy) nestW) : fx_Met l yX12_has (.code yX12_has cX12_has 2 (some .boolean) :: wsL_law) ({ frames := 0, cells := 0, slots := 0, locals := 0 }) E (gsM, TM, cy, fun _ => True) ad D classes km268_c :=
  fx_sound (x := km268_x) (tb := t_X12_has) (an := km268_a) (sp := km268_s) (rk := 3) 11 h (fun _ _ _ _ _ _ => trivial) (fun _ _ _ _ _ _ => trivial) (ht_tys cy) (by decide) rfl ⟨fx_an, fx_an, fx_an, fx_an, fx_an, fx_an⟩ d_X12_has km268_k
-- X12_has i i ('c', 256) ('c', 4)
def km269_c : fx_C := ([.inl (256, 256), .inl (4, 4)], [], [(some (.inl (0, 0)), [.inl (256, 256), .inl (4, 4)], [])], [])
def km269_a : List fx_N := []
def km269_s : List fx_D := []
def km269_x : fx_X := ([], [], [], [], [], [])
set_option maxRecDepth 100000 in
theorem km269_k : fx_chk TM 2 km269_c 3 km269_x t_X12_has km269_a km269_s 11 = true := by decide +kernel
set_option maxRecDepth 100000 in
theorem km269 {l : Launch} {E : (Nat → Prop) → State → Prop} {ad : List Nat} {D : va_G} {cy : Nat → ClassId} (h : fx_env E D classes (tys cy) nestW) : fx_Met l yX12_has (.code yX12_has cX12_has 2 (some .boolean) :: wsL_law) ({ frames := 0, cells := 0, slots := 0, locals := 0 }) E (gsM, TM, cy, fun _ => True) ad D classes km269_c :=
  fx_sound (x := km269_x) (tb := t_X12_has) (an := km269_a) (sp := km269_s) (rk := 3) 11 h (fun _ _ _ _ _ _ => trivial) (fun _ _ _ _ _ _ => trivial) (ht_tys cy) (by decide) rfl ⟨fx_an, fx_an, fx_an, fx_an, fx_an, fx_an⟩ d_X12_has km269_k
-- X12_has i i ('c', 256) ('c', 5)
def km270_c : fx_C := ([.inl (256, 256), .inl (5, 5)], [], [(some (.inl (0, 0)), [.inl (256, 256), .inl (5, 5)], [])], [])
def km270_a : List fx_N := []
def km270_s : List fx_D := []
def km270_x : fx_X := ([], [], [], [], [], [])
set_option maxRecDepth 100000 in
theorem km270_k : fx_chk TM 2 km270_c 3 km270_x t_X12_has km270_a km270_s 11 = true := by decide +kernel
set_option maxRecDepth 100000 in
theorem km270 {l : Launch} {E : (Nat → Prop) → State → Prop} {ad : List Nat} {D : va_G} {cy : Nat → ClassId} (h : fx_env E D classes (tys cy) nestW) : fx_Met l yX12_has (.code yX12_has cX12_has 2 (some .boolean) :: wsL_law) ({ frames := 0, cells := 0, slots := 0, locals := 0 }) E (gsM, TM, cy, fun _ => True) ad D classes km270_c :=
  fx_sound (x := km270_x) (tb := t_X12_has) (an := km270_a) (sp := km270_s) (rk := 3) 11 h (fun _ _ _ _ _ _ => trivial) (fun _ _ _ _ _ _ => trivial) (ht_tys cy) (by decide) rfl ⟨fx_an, fx_an, fx_an, fx_an, fx_an, fx_an⟩ d_X12_has km270_k
-- X12_has i i ('c', 256) ('c', 6)
def km271_c : fx_C := ([.inl (256, 256), .inl (6, 6)], [], [(some (.inl (0, 0)), [.inl (256, 256), .inl (6, 6)], [])], [])
def km271_a : List fx_N := []
def km271_s : List fx_D := []
def km271_x : fx_X := ([], [], [], [], [], [])
set_option maxRecDepth 100000 in
theorem km271_k : fx_chk TM 2 km271_c 3 km271_x t_X12_has km271_a km271_s 11 = true := by decide +kernel
set_option maxRecDepth 100000 in
theorem km271 {l : Launch} {E : (Nat → Prop) → State → Prop} {ad : List Nat} {D : va_G} {cy : Nat → ClassId} (h : fx_env E D classes (tys cy) nestW) : fx_Met l yX12_has (.code yX12_has cX12_has 2 (some .boolean) :: wsL_law) ({ frames := 0, cells := 0, slots := 0, locals := 0 }) E (gsM, TM, cy, fun _ => True) ad D classes km271_c :=
  fx_sound (x := km271_x) (tb := t_X12_has) (an := km271_a) (sp := km271_s) (rk := 3) 11 h (fun _ _ _ _ _ _ => trivial) (fun _ _ _ _ _ _ => trivial) (ht_tys cy) (by decide) rfl ⟨fx_an, fx_an, fx_an, fx_an, fx_an, fx_an⟩ d_X12_has km271_k
-- X12_has i i ('c', 256) ('c', 7)
def km272_c : fx_C := ([.inl (256, 256), .inl (7, 7)], [], [(some (.inl (0, 0)), [.inl (256, 256), .inl (7, 7)], [])], [])
def km272_a : List fx_N := []
def km272_s : List fx_D := []
def km272_x : fx_X := ([], [], [], [], [], [])
set_option maxRecDepth 100000 in
theorem km272_k : fx_chk TM 2 km272_c 3 km272_x t_X12_has km272_a km272_s 11 = true := by decide +kernel
set_option maxRecDepth 100000 in
theorem km272 {l : Launch} {E : (Nat → Prop) → State → Prop} {ad : List Nat} {D : va_G} {cy : Nat → ClassId} (h : fx_env E D classes (tys cy) nestW) : fx_Met l yX12_has (.code yX12_has cX12_has 2 (some .boolean) :: wsL_law) ({ frames := 0, cells := 0, slots := 0, locals := 0 }) E (gsM, TM, cy, fun _ => True) ad D classes km272_c :=
  fx_sound (x := km272_x) (tb := t_X12_has) (an := km272_a) (sp := km272_s) (rk := 3) 11 h (fun _ _ _ _ _ _ => trivial) (fun _ _ _ _ _ _ => trivial) (ht_tys cy) (by decide) rfl ⟨fx_an, fx_an, fx_an, fx_an, fx_an, fx_an⟩ d_X12_has km272_k
-- X12_has i i ('c', 256) ('c', 8)
def km273_c : fx_C := ([.inl (256, 256), .inl (8, 8)], [], [(some (.inl (1, 1)), [.inl (256, 256), .inl (8, 8)], [])], [])
def km273_a : List fx_N := []
def km273_s : List fx_D := []
def km273_x : fx_X := ([], [], [], [], [], [])
set_option maxRecDepth 100000 in
theorem km273_k : fx_chk TM 2 km273_c 3 km273_x t_X12_has km273_a km273_s 12 = true := by decide +kernel
set_option maxRecDepth 100000 in
theorem km273 {l : Launch} {E : (Nat → Prop) → State → Prop} {ad : List Nat} {D : va_G} {cy : Nat → ClassId} (h : fx_env E D classes (tys cy) nestW) : fx_Met l yX12_has (.code yX12_has cX12_has 2 (some .boolean) :: wsL_law) ({ frames := 0, cells := 0, slots := 0, locals := 0 }) E (gsM, TM, cy, fun _ => True) ad D classes km273_c :=
  fx_sound (x := km273_x) (tb := t_X12_has) (an := km273_a) (sp := km273_s) (rk := 3) 12 h (fun _ _ _ _ _ _ => trivial) (fun _ _ _ _ _ _ => trivial) (ht_tys cy) (by decide) rfl ⟨fx_an, fx_an, fx_an, fx_an, fx_an, fx_an⟩ d_X12_has km273_k
-- X12_has i i ('c', 256) ('c', 9)
def km274_c : fx_C := ([.inl (256, 256), .inl (9, 9)], [], [(some (.inl (0, 0)), [.inl (256, 256), .inl (9, 9)], [])], [])
def km274_a : List fx_N := []
def km274_s : List fx_D := []
def km274_x : fx_X := ([], [], [], [], [], [])
set_option maxRecDepth 100000 in
theorem km274_k : fx_chk TM 2 km274_c 3 km274_x t_X12_has km274_a km274_s 11 = true := by decide +kernel
set_option maxRecDepth 100000 in
theorem km274 {l : Launch} {E : (Nat → Prop) → State → Prop} {ad : List Nat} {D : va_G} {cy : Nat → ClassId} (h : fx_env E D classes (tys cy) nestW) : fx_Met l yX12_has (.code yX12_has cX12_has 2 (some .boolean) :: wsL_law) ({ frames := 0, cells := 0, slots := 0, locals := 0 }) E (gsM, TM, cy, fun _ => True) ad D classes km274_c :=
  fx_sound (x := km274_x) (tb := t_X12_has) (an := km274_a) (sp := km274_s) (rk := 3) 11 h (fun _ _ _ _ _ _ => trivial) (fun _ _ _ _ _ _ => trivial) (ht_tys cy) (by decide) rfl ⟨fx_an, fx_an, fx_an, fx_an, fx_an, fx_an⟩ d_X12_has km274_k
-- X12_has i i ('c', 256) ('c', 10)
def km275_c : fx_C := ([.inl (256, 256), .inl (10, 10)], [], [(some (.inl (0, 0)), [.inl (256, 256), .inl (10, 10)], [])], [])
def km275_a : List fx_N := []
def km275_s : List fx_D := []
def km275_x : fx_X := ([], [], [], [], [], [])
set_option maxRecDepth 100000 in
theorem km275_k : fx_chk TM 2 km275_c 3 km275_x t_X12_has km275_a km275_s 11 = true := by decide +kernel
set_option maxRecDepth 100000 in
theorem km275 {l : Launch} {E : (Nat → Prop) → State → Prop} {ad : List Nat} {D : va_G} {cy : Nat → ClassId} (h : fx_env E D classes (tys cy) nestW) : fx_Met l yX12_has (.code yX12_has cX12_has 2 (some .boolean) :: wsL_law) ({ frames := 0, cells := 0, slots := 0, locals := 0 }) E (gsM, TM, cy, fun _ => True) ad D classes km275_c :=
  fx_sound (x := km275_x) (tb := t_X12_has) (an := km275_a) (sp := km275_s) (rk := 3) 11 h (fun _ _ _ _ _ _ => trivial) (fun _ _ _ _ _ _ => trivial) (ht_tys cy) (by decide) rfl ⟨fx_an, fx_an, fx_an, fx_an, fx_an, fx_an⟩ d_X12_has km275_k
-- X12_has i i ('c', 256) ('c', 11)
def km276_c : fx_C := ([.inl (256, 256), .inl (11, 11)], [], [(some (.inl (0, 0)), [.inl (256, 256), .inl (11, 11)], [])], [])
def km276_a : List fx_N := []
def km276_s : List fx_D := []
def km276_x : fx_X := ([], [], [], [], [], [])
set_option maxRecDepth 100000 in
theorem km276_k : fx_chk TM 2 km276_c 3 km276_x t_X12_has km276_a km276_s 11 = true := by decide +kernel
set_option maxRecDepth 100000 in
theorem km276 {l : Launch} {E : (Nat → Prop) → State → Prop} {ad : List Nat} {D : va_G} {cy : Nat → ClassId} (h : fx_env E D classes (tys cy) nestW) : fx_Met l yX12_has (.code yX12_has cX12_has 2 (some .boolean) :: wsL_law) ({ frames := 0, cells := 0, slots := 0, locals := 0 }) E (gsM, TM, cy, fun _ => True) ad D classes km276_c :=
  fx_sound (x := km276_x) (tb := t_X12_has) (an := km276_a) (sp := km276_s) (rk := 3) 11 h (fun _ _ _ _ _ _ => trivial) (fun _ _ _ _ _ _ => trivial) (ht_tys cy) (by decide) rfl ⟨fx_an, fx_an, fx_an, fx_an, fx_an, fx_an⟩ d_X12_has km276_k
-- X12_layWithout 0 i ('c', 256)
def km277_c : fx_C := ([.inr (.inr 1), .inl (256, 256)], [], [(none, [.inr (.inr 1), .inl (256, 256)], [((0, 45), .inl (0, 11))])], [(12, 45), (1000, 43)])
def km277_a : List fx_N := [(7, [(2, .inl (0, 0)), (0, .inr (.inr 1)), (1, .inl (256, 256))], [((1, 45), .inl (0, 0))], [(0, 12)], [(0, 1), (1, 2)]), (7, [(2, .inl (1, 1)), (0, .inr (.inr 1)), (1, .inl (256, 256))], [((1, 45), .inl (1, 1)), ((1, 41), .inr (.inr 43)), ((4, 12), .inl (1, 12))], [(0, 11)], [(0, 1), (1, 2)]), (7, [(2, .inl (2, 2)), (0, .inr (.inr 1)), (1, .inl (256, 256))], [((1, 45), .inl (2, 2)), ((1, 41), .inr (.inr 43)), ((4, 12), .inl (2, 12))], [(0, 10)], [(0, 1), (1, 2)]), (7, [(2, .inl (3, 3)), (0, .inr (.inr 1)), (1, .inl (256, 256))], [((1, 45), .inl (3, 3)), ((1, 41), .inr (.inr 43)), ((4, 12), .inl (3, 12))], [(0, 9)], [(0, 1), (1, 2)]), (7, [(2, .inl (4, 4)), (0, .inr (.inr 1)), (1, .inl (256, 256))], [((1, 45), .inl (4, 4)), ((1, 41), .inr (.inr 43)), ((4, 12), .inl (4, 12))], [(0, 8)], [(0, 1), (1, 2)]), (7, [(2, .inl (5, 5)), (0, .inr (.inr 1)), (1, .inl (256, 256))], [((1, 45), .inl (5, 5)), ((1, 41), .inr (.inr 43)), ((4, 12), .inl (5, 12))], [(0, 7)], [(0, 1), (1, 2)]), (7, [(2, .inl (6, 6)), (0, .inr (.inr 1)), (1, .inl (256, 256))], [((1, 45), .inl (6, 6)), ((1, 41), .inr (.inr 43)), ((4, 12), .inl (6, 12))], [(0, 6)], [(0, 1), (1, 2)]), (7, [(2, .inl (7, 7)), (0, .inr (.inr 1)), (1, .inl (256, 256))], [((1, 45), .inl (7, 7)), ((1, 41), .inr (.inr 43)), ((4, 12), .inl (7, 12))], [(0, 5)], [(0, 1), (1, 2)]), (7, [(2, .inl (8, 8)), (0, .inr (.inr 1)), (1, .inl (256, 256))], [((1, 45), .inl (8, 8)), ((1, 41), .inr (.inr 43)), ((4, 12), .inl (8, 12))], [(0, 4)], [(0, 1), (1, 2)]), (7, [(2, .inl (9, 9)), (0, .inr (.inr 1)), (1, .inl (256, 256))], [((1, 45), .inl (8, 8)), ((1, 41), .inr (.inr 43)), ((4, 12), .inl (9, 12))], [(0, 3)], [(0, 1), (1, 2)]), (7, [(2, .inl (10, 10)), (0, .inr (.inr 1)), (1, .inl (256, 256))], [((1, 45), .inl (9, 9)), ((1, 41), .inr (.inr 43)), ((4, 12), .inl (10, 12))], [(0, 2)], [(0, 1), (1, 2)]), (7, [(2, .inl (11, 11)), (0, .inr (.inr 1)), (1, .inl (256, 256))], [((1, 45), .inl (10, 10)), ((1, 41), .inr (.inr 43)), ((4, 12), .inl (11, 12))], [(0, 1)], [(0, 1), (1, 2)]), (7, [(2, .inl (12, 12)), (0, .inr (.inr 1)), (1, .inl (256, 256))], [((1, 45), .inl (11, 11)), ((1, 41), .inr (.inr 43)), ((4, 12), .inl (12, 12))], [(0, 0)], [(0, 1), (1, 2)])]
def km277_s : List fx_D := []
def km277_x : fx_X := ([], [(92, 12, 41), (95, 12, 42), (384, 12, 45)], [(384, 12, 45, 0)], [], [], [(20, 474, 1000, km265_c), (20, 474, 1000, km266_c), (20, 474, 1000, km267_c), (20, 474, 1000, km268_c), (20, 474, 1000, km269_c), (20, 474, 1000, km270_c), (20, 474, 1000, km271_c), (20, 474, 1000, km272_c), (20, 474, 1000, km273_c), (20, 474, 1000, km274_c), (20, 474, 1000, km275_c), (20, 474, 1000, km276_c)])
set_option maxRecDepth 100000 in
theorem km277_k : fx_chk TM 3 km277_c 9 km277_x t_X12_layWithout km277_a km277_s 32 = true := by decide +kernel
set_option maxRecDepth 100000 in
theorem km277 {l : Launch} {E : (Nat → Prop) → State → Prop} {ad : List Nat} {D : va_G} {cy : Nat → ClassId} (h : fx_env E D classes (tys cy) nestW) : fx_Met l yX12_layWithout (.code yX12_layWithout cX12_layWithout 3 none :: wsL_law) ({ frames := 1, cells := 0, slots := 0, locals := 21 }) E (gsM, TM, cy, fun _ => True) ad D classes km277_c :=
  fx_sound (x := km277_x) (tb := t_X12_layWithout) (an := km277_a) (sp := km277_s) (rk := 9) 32 h (fun _ _ _ _ _ _ => trivial) (fun _ _ _ _ _ _ => trivial) (ht_tys cy) (by decide) rfl ⟨fx_an, (fx_ac fl_X12_92 (fx_ac fl_X12_95 (fx_ac fl_X12_384 (fx_an)))), (fx_ac pl_X12_384 (fx_an)), fx_an, fx_an, (fx_ac (ev_S (km265 h) ⟨by decide, by decide⟩ iS_X12_has g_X12_474) (fx_ac (ev_S (km266 h) ⟨by decide, by decide⟩ iS_X12_has g_X12_474) (fx_ac (ev_S (km267 h) ⟨by decide, by decide⟩ iS_X12_has g_X12_474) (fx_ac (ev_S (km268 h) ⟨by decide, by decide⟩ iS_X12_has g_X12_474) (fx_ac (ev_S (km269 h) ⟨by decide, by decide⟩ iS_X12_has g_X12_474) (fx_ac (ev_S (km270 h) ⟨by decide, by decide⟩ iS_X12_has g_X12_474) (fx_ac (ev_S (km271 h) ⟨by decide, by decide⟩ iS_X12_has g_X12_474) (fx_ac (ev_S (km272 h) ⟨by decide, by decide⟩ iS_X12_has g_X12_474) (fx_ac (ev_S (km273 h) ⟨by decide, by decide⟩ iS_X12_has g_X12_474) (fx_ac (ev_S (km274 h) ⟨by decide, by decide⟩ iS_X12_has g_X12_474) (fx_ac (ev_S (km275 h) ⟨by decide, by decide⟩ iS_X12_has g_X12_474) (fx_ac (ev_S (km276 h) ⟨by decide, by decide⟩ iS_X12_has g_X12_474) (fx_an)))))))))))))⟩ d_X12_layWithout km277_k
-- X12_has i i ('c', 512) ('c', 0)
def km278_c : fx_C := ([.inl (512, 512), .inl (0, 0)], [], [(some (.inl (0, 0)), [.inl (512, 512), .inl (0, 0)], [])], [])
def km278_a : List fx_N := []
def km278_s : List fx_D := []
def km278_x : fx_X := ([], [], [], [], [], [])
set_option maxRecDepth 100000 in
theorem km278_k : fx_chk TM 2 km278_c 3 km278_x t_X12_has km278_a km278_s 11 = true := by decide +kernel
set_option maxRecDepth 100000 in
theorem km278 {l : Launch} {E : (Nat → Prop) → State → Prop} {ad : List Nat} {D : va_G} {cy : Nat → ClassId} (h : fx_env E D classes (tys cy) nestW) : fx_Met l yX12_has (.code yX12_has cX12_has 2 (some .boolean) :: wsL_law) ({ frames := 0, cells := 0, slots := 0, locals := 0 }) E (gsM, TM, cy, fun _ => True) ad D classes km278_c :=
  fx_sound (x := km278_x) (tb := t_X12_has) (an := km278_a) (sp := km278_s) (rk := 3) 11 h (fun _ _ _ _ _ _ => trivial) (fun _ _ _ _ _ _ => trivial) (ht_tys cy) (by decide) rfl ⟨fx_an, fx_an, fx_an, fx_an, fx_an, fx_an⟩ d_X12_has km278_k
-- X12_has i i ('c', 512) ('c', 1)
def km279_c : fx_C := ([.inl (512, 512), .inl (1, 1)], [], [(some (.inl (0, 0)), [.inl (512, 512), .inl (1, 1)], [])], [])
def km279_a : List fx_N := []
def km279_s : List fx_D := []
def km279_x : fx_X := ([], [], [], [], [], [])
set_option maxRecDepth 100000 in
theorem km279_k : fx_chk TM 2 km279_c 3 km279_x t_X12_has km279_a km279_s 11 = true := by decide +kernel
set_option maxRecDepth 100000 in
theorem km279 {l : Launch} {E : (Nat → Prop) → State → Prop} {ad : List Nat} {D : va_G} {cy : Nat → ClassId} (h : fx_env E D classes (tys cy) nestW) : fx_Met l yX12_has (.code yX12_has cX12_has 2 (some .boolean) :: wsL_law) ({ frames := 0, cells := 0, slots := 0, locals := 0 }) E (gsM, TM, cy, fun _ => True) ad D classes km279_c :=
  fx_sound (x := km279_x) (tb := t_X12_has) (an := km279_a) (sp := km279_s) (rk := 3) 11 h (fun _ _ _ _ _ _ => trivial) (fun _ _ _ _ _ _ => trivial) (ht_tys cy) (by decide) rfl ⟨fx_an, fx_an, fx_an, fx_an, fx_an, fx_an⟩ d_X12_has km279_k
-- X12_has i i ('c', 512) ('c', 2)
def km280_c : fx_C := ([.inl (512, 512), .inl (2, 2)], [], [(some (.inl (0, 0)), [.inl (512, 512), .inl (2, 2)], [])], [])
def km280_a : List fx_N := []
def km280_s : List fx_D := []
def km280_x : fx_X := ([], [], [], [], [], [])
set_option maxRecDepth 100000 in
theorem km280_k : fx_chk TM 2 km280_c 3 km280_x t_X12_has km280_a km280_s 11 = true := by decide +kernel
set_option maxRecDepth 100000 in
theorem km280 {l : Launch} {E : (Nat → Prop) → State → Prop} {ad : List Nat} {D : va_G} {cy : Nat → ClassId} (h : fx_env E D classes (tys cy) nestW) : fx_Met l yX12_has (.code yX12_has cX12_has 2 (some .boolean) :: wsL_law) ({ frames := 0, cells := 0, slots := 0, locals := 0 }) E (gsM, TM, cy, fun _ => True) ad D classes km280_c :=
  fx_sound (x := km280_x) (tb := t_X12_has) (an := km280_a) (sp := km280_s) (rk := 3) 11 h (fun _ _ _ _ _ _ => trivial) (fun _ _ _ _ _ _ => trivial) (ht_tys cy) (by decide) rfl ⟨fx_an, fx_an, fx_an, fx_an, fx_an, fx_an⟩ d_X12_has km280_k
-- X12_has i i ('c', 512) ('c', 3)
def km281_c : fx_C := ([.inl (512, 512), .inl (3, 3)], [], [(some (.inl (0, 0)), [.inl (512, 512), .inl (3, 3)], [])], [])
def km281_a : List fx_N := []
def km281_s : List fx_D := []
def km281_x : fx_X := ([], [], [], [], [], [])
set_option maxRecDepth 100000 in
theorem km281_k : fx_chk TM 2 km281_c 3 km281_x t_X12_has km281_a km281_s 11 = true := by decide +kernel
set_option maxRecDepth 100000 in
theorem km281 {l : Launch} {E : (Nat → Prop) → State → Prop} {ad : List Nat} {D : va_G} {cy : Nat → ClassId} (h : fx_env E D classes (tys cy) nestW) : fx_Met l yX12_has (.code yX12_has cX12_has 2 (some .boolean) :: wsL_law) ({ frames := 0, cells := 0, slots := 0, locals := 0 }) E (gsM, TM, cy, fun _ => True) ad D classes km281_c :=
  fx_sound (x := km281_x) (tb := t_X12_has) (an := km281_a) (sp := km281_s) (rk := 3) 11 h (fun _ _ _ _ _ _ => trivial) (fun _ _ _ _ _ _ => trivial) (ht_tys cy) (by decide) rfl ⟨fx_an, fx_an, fx_an, fx_an, fx_an, fx_an⟩ d_X12_has km281_k
-- X12_has i i ('c', 512) ('c', 4)
def km282_c : fx_C := ([.inl (512, 512), .inl (4, 4)], [], [(some (.inl (0, 0)), [.inl (512, 512), .inl (4, 4)], [])], [])
def km282_a : List fx_N := []
def km282_s : List fx_D := []
def km282_x : fx_X := ([], [], [], [], [], [])
set_option maxRecDepth 100000 in
theorem km282_k : fx_chk TM 2 km282_c 3 km282_x t_X12_has km282_a km282_s 11 = true := by decide +kernel
set_option maxRecDepth 100000 in
theorem km282 {l : Launch} {E : (Nat → Prop) → State → Prop} {ad : List Nat} {D : va_G} {cy : Nat → ClassId} (h : fx_env E D classes (tys cy) nestW) : fx_Met l yX12_has (.code yX12_has cX12_has 2 (some .boolean) :: wsL_law) ({ frames := 0, cells := 0, slots := 0, locals := 0 }) E (gsM, TM, cy, fun _ => True) ad D classes km282_c :=
  fx_sound (x := km282_x) (tb := t_X12_has) (an := km282_a) (sp := km282_s) (rk := 3) 11 h (fun _ _ _ _ _ _ => trivial) (fun _ _ _ _ _ _ => trivial) (ht_tys cy) (by decide) rfl ⟨fx_an, fx_an, fx_an, fx_an, fx_an, fx_an⟩ d_X12_has km282_k
-- X12_has i i ('c', 512) ('c', 5)
def km283_c : fx_C := ([.inl (512, 512), .inl (5, 5)], [], [(some (.inl (0, 0)), [.inl (512, 512), .inl (5, 5)], [])], [])
def km283_a : List fx_N := []
def km283_s : List fx_D := []
def km283_x : fx_X := ([], [], [], [], [], [])
set_option maxRecDepth 100000 in
theorem km283_k : fx_chk TM 2 km283_c 3 km283_x t_X12_has km283_a km283_s 11 = true := by decide +kernel
set_option maxRecDepth 100000 in
theorem km283 {l : Launch} {E : (Nat → Prop) → State → Prop} {ad : List Nat} {D : va_G} {cy : Nat → ClassId} (h : fx_env E D classes (tys cy) nestW) : fx_Met l yX12_has (.code yX12_has cX12_has 2 (some .boolean) :: wsL_law) ({ frames := 0, cells := 0, slots := 0, locals := 0 }) E (gsM, TM, cy, fun _ => True) ad D classes km283_c :=
  fx_sound (x := km283_x) (tb := t_X12_has) (an := km283_a) (sp := km283_s) (rk := 3) 11 h (fun _ _ _ _ _ _ => trivial) (fun _ _ _ _ _ _ => trivial) (ht_tys cy) (by decide) rfl ⟨fx_an, fx_an, fx_an, fx_an, fx_an, fx_an⟩ d_X12_has km283_k
-- X12_has i i ('c', 512) ('c', 6)
def km284_c : fx_C := ([.inl (512, 512), .inl (6, 6)], [], [(some (.inl (0, 0)), [.inl (512, 512), .inl (6, 6)], [])], [])
def km284_a : List fx_N := []
def km284_s : List fx_D := []
def km284_x : fx_X := ([], [], [], [], [], [])
set_option maxRecDepth 100000 in
theorem km284_k : fx_chk TM 2 km284_c 3 km284_x t_X12_has km284_a km284_s 11 = true := by decide +kernel
set_option maxRecDepth 100000 in
theorem km284 {l : Launch} {E : (Nat → Prop) → State → Prop} {ad : List Nat} {D : va_G} {cy : Nat → ClassId} (h : fx_env E D classes (tys cy) nestW) : fx_Met l yX12_has (.code yX12_has cX12_has 2 (some .boolean) :: wsL_law) ({ frames := 0, cells := 0, slots := 0, locals := 0 }) E (gsM, TM, cy, fun _ => True) ad D classes km284_c :=
  fx_sound (x := km284_x) (tb := t_X12_has) (an := km284_a) (sp := km284_s) (rk := 3) 11 h (fun _ _ _ _ _ _ => trivial) (fun _ _ _ _ _ _ => trivial) (ht_tys cy) (by decide) rfl ⟨fx_an, fx_an, fx_an, fx_an, fx_an, fx_an⟩ d_X12_has km284_k
-- X12_has i i ('c', 512) ('c', 7)
def km285_c : fx_C := ([.inl (512, 512), .inl (7, 7)], [], [(some (.inl (0, 0)), [.inl (512, 512), .inl (7, 7)], [])], [])
def km285_a : List fx_N := []
def km285_s : List fx_D := []
def km285_x : fx_X := ([], [], [], [], [], [])
set_option maxRecDepth 100000 in
theorem km285_k : fx_chk TM 2 km285_c 3 km285_x t_X12_has km285_a km285_s 11 = true := by decide +kernel
set_option maxRecDepth 100000 in
theorem km285 {l : Launch} {E : (Nat → Prop) → State → Prop} {ad : List Nat} {D : va_G} {cy : Nat → ClassId} (h : fx_env E D classes (tys cy) nestW) : fx_Met l yX12_has (.code yX12_has cX12_has 2 (some .boolean) :: wsL_law) ({ frames := 0, cells := 0, slots := 0, locals := 0 }) E (gsM, TM, cy, fun _ => True) ad D classes km285_c :=
  fx_sound (x := km285_x) (tb := t_X12_has) (an := km285_a) (sp := km285_s) (rk := 3) 11 h (fun _ _ _ _ _ _ => trivial) (fun _ _ _ _ _ _ => trivial) (ht_tys cy) (by decide) rfl ⟨fx_an, fx_an, fx_an, fx_an, fx_an, fx_an⟩ d_X12_has km285_k
-- X12_has i i ('c', 512) ('c', 8)
def km286_c : fx_C := ([.inl (512, 512), .inl (8, 8)], [], [(some (.inl (0, 0)), [.inl (512, 512), .inl (8, 8)], [])], [])
def km286_a : List fx_N := []
def km286_s : List fx_D := []
def km286_x : fx_X := ([], [], [], [], [], [])
set_option maxRecDepth 100000 in
theorem km286_k : fx_chk TM 2 km286_c 3 km286_x t_X12_has km286_a km286_s 11 = true := by decide +kernel
set_option maxRecDepth 100000 in
theorem km286 {l : Launch} {E : (Nat → Prop) → State → Prop} {ad : List Nat} {D : va_G} {cy : Nat → ClassId} (h : fx_env E D classes (tys cy) nestW) : fx_Met l yX12_has (.code yX12_has cX12_has 2 (some .boolean) :: wsL_law) ({ frames := 0, cells := 0, slots := 0, locals := 0 }) E (gsM, TM, cy, fun _ => True) ad D classes km286_c :=
  fx_sound (x := km286_x) (tb := t_X12_has) (an := km286_a) (sp := km286_s) (rk := 3) 11 h (fun _ _ _ _ _ _ => trivial) (fun _ _ _ _ _ _ => trivial) (ht_tys cy) (by decide) rfl ⟨fx_an, fx_an, fx_an, fx_an, fx_an, fx_an⟩ d_X12_has km286_k
-- X12_has i i ('c', 512) ('c', 9)
def km287_c : fx_C := ([.inl (512, 512), .inl (9, 9)], [], [(some (.inl (1, 1)), [.inl (512, 512), .inl (9, 9)], [])], [])
def km287_a : List fx_N := []
def km287_s : List fx_D := []
def km287_x : fx_X := ([], [], [], [], [], [])
set_option maxRecDepth 100000 in
theorem km287_k : fx_chk TM 2 km287_c 3 km287_x t_X12_has km287_a km287_s 12 = true := by decide +kernel
set_option maxRecDepth 100000 in
theorem km287 {l : Launch} {E : (Nat → Prop) → State → Prop} {ad : List Nat} {D : va_G} {cy : Nat → ClassId} (h : fx_env E D classes (tys cy) nestW) : fx_Met l yX12_has (.code yX12_has cX12_has 2 (some .boolean) :: wsL_law) ({ frames := 0, cells := 0, slots := 0, locals := 0 }) E (gsM, TM, cy, fun _ => True) ad D classes km287_c :=
  fx_sound (x := km287_x) (tb := t_X12_has) (an := km287_a) (sp := km287_s) (rk := 3) 12 h (fun _ _ _ _ _ _ => trivial) (fun _ _ _ _ _ _ => trivial) (ht_tys cy) (by decide) rfl ⟨fx_an, fx_an, fx_an, fx_an, fx_an, fx_an⟩ d_X12_has km287_k
-- X12_has i i ('c', 512) ('c', 10)
def km288_c : fx_C := ([.inl (512, 512), .inl (10, 10)], [], [(some (.inl (0, 0)), [.inl (512, 512), .inl (10, 10)], [])], [])
def km288_a : List fx_N := []
def km288_s : List fx_D := []
def km288_x : fx_X := ([], [], [], [], [], [])
set_option maxRecDepth 100000 in
theorem km288_k : fx_chk TM 2 km288_c 3 km288_x t_X12_has km288_a km288_s 11 = true := by decide +kernel
set_option maxRecDepth 100000 in
theorem km288 {l : Launch} {E : (Nat → Prop) → State → Prop} {ad : List Nat} {D : va_G} {cy : Nat → ClassId} (h : fx_env E D classes (tys cy) nestW) : fx_Met l yX12_has (.code yX12_has cX12_has 2 (some .boolean) :: wsL_law) ({ frames := 0, cells := 0, slots := 0, locals := 0 }) E (gsM, TM, cy, fun _ => True) ad D classes km288_c :=
  fx_sound (x := km288_x) (tb := t_X12_has) (an := km288_a) (sp := km288_s) (rk := 3) 11 h (fun _ _ _ _ _ _ => trivial) (fun _ _ _ _ _ _ => trivial) (ht_tys cy) (by decide) rfl ⟨fx_an, fx_an, fx_an, fx_an, fx_an, fx_an⟩ d_X12_has km288_k
-- X12_has i i ('c', 512) ('c', 11)
def km289_c : fx_C := ([.inl (512, 512), .inl (11, 11)], [], [(some (.inl (0, 0)), [.inl (512, 512), .inl (11, 11)], [])], [])
def km289_a : List fx_N := []
def km289_s : List fx_D := []
def km289_x : fx_X := ([], [], [], [], [], [])
set_option maxRecDepth 100000 in
theorem km289_k : fx_chk TM 2 km289_c 3 km289_x t_X12_has km289_a km289_s 11 = true := by decide +kernel
set_option maxRecDepth 100000 in
theorem km289 {l : Launch} {E : (Nat → Prop) → State → Prop} {ad : List Nat} {D : va_G} {cy : Nat → ClassId} (h : fx_env E D classes (tys cy) nestW) : fx_Met l yX12_has (.code yX12_has cX12_has 2 (some .boolean) :: wsL_law) ({ frames := 0, cells := 0, slots := 0, locals := 0 }) E (gsM, TM, cy, fun _ => True) ad D classes km289_c :=
  fx_sound (x := km289_x) (tb := t_X12_has) (an := km289_a) (sp := km289_s) (rk := 3) 11 h (fun _ _ _ _ _ _ => trivial) (fun _ _ _ _ _ _ => trivial) (ht_tys cy) (by decide) rfl ⟨fx_an, fx_an, fx_an, fx_an, fx_an, fx_an⟩ d_X12_has km289_k
