-- X12_has i i ('c', 64) ('c', 11)
def km200_c : fx_C := ([.inl (64, 64), .inl (11, 11)], [], [(some (.inl (0, 0)), [.inl (64, 64), .inl (11, 11)], [])], [])
def km200_a : List fx_N := []
def km200_s : List fx_D := []
def km200_x : fx_X := ([], [], [], [], [], [])
set_option maxRecDepth 100000 in
theorem km200_k : fx_chk TM 2 km200_c 3 km200_x t_X12_has km200_a km200_s 11 = true := by decide +kernel
set_option maxRecDepth 100000 in
theorem km200 {l : Launch} {E : (Nat → Prop) → State → Prop} {ad : List Nat} {D : va_G} {cy : Nat → ClassId} (h : fx_env E D classes (tys cy) nestW) : fx_Met l yX12_has (.code yX12_has cX12_has 2 (some .boolean) :: wsL_law) ({ frames := 0, cells := 0, slots := 0, locals := 0 }) E (gsM, TM, cy, fun _ => True) ad D classes km200_c :=
  fx_sound (x := km200_x) (tb := t_X12_has) (an := km200_a) (sp := km200_s) (rk := 3) 11 h (fun _ _ _ _ _ _ => trivial) (fun _ _ _ _ _ _ => trivial) (ht_tys cy) (by decide) rfl ⟨fx_an, fx_an, fx_an, fx_an, fx_an, fx_an⟩ d_X12_has km200_k
-- X12_layWithout 0 i ('c', 64)
def km201_c : fx_C := ([.inr (.inr 1), .inl (64, 64)], [], [(none, [.inr (.inr 1), .inl (64, 64)], [((0, 45), .inl (0, 11))])], [(12, 45), (1000, 27)])
def km201_a : List fx_N := [(7, [(2, .inl (0, 0)), (0, .inr (.inr 1)), (1, .inl (64, 64))], [((1, 45), .inl (0, 0))], [(0, 12)], [(0, 1), (1, 2)]), (7, [(2, .inl (1, 1)), (0, .inr (.inr 1)), (1, .inl (64, 64))], [((1, 45), .inl (1, 1)), ((1, 41), .inr (.inr 27)), ((4, 12), .inl (1, 12))], [(0, 11)], [(0, 1), (1, 2)]), (7, [(2, .inl (2, 2)), (0, .inr (.inr 1)), (1, .inl (64, 64))], [((1, 45), .inl (2, 2)), ((1, 41), .inr (.inr 27)), ((4, 12), .inl (2, 12))], [(0, 10)], [(0, 1), (1, 2)]), (7, [(2, .inl (3, 3)), (0, .inr (.inr 1)), (1, .inl (64, 64))], [((1, 45), .inl (3, 3)), ((1, 41), .inr (.inr 27)), ((4, 12), .inl (3, 12))], [(0, 9)], [(0, 1), (1, 2)]), (7, [(2, .inl (4, 4)), (0, .inr (.inr 1)), (1, .inl (64, 64))], [((1, 45), .inl (4, 4)), ((1, 41), .inr (.inr 27)), ((4, 12), .inl (4, 12))], [(0, 8)], [(0, 1), (1, 2)]), (7, [(2, .inl (5, 5)), (0, .inr (.inr 1)), (1, .inl (64, 64))], [((1, 45), .inl (5, 5)), ((1, 41), .inr (.inr 27)), ((4, 12), .inl (5, 12))], [(0, 7)], [(0, 1), (1, 2)]), (7, [(2, .inl (6, 6)), (0, .inr (.inr 1)), (1, .inl (64, 64))], [((1, 45), .inl (6, 6)), ((1, 41), .inr (.inr 27)), ((4, 12), .inl (6, 12))], [(0, 6)], [(0, 1), (1, 2)]), (7, [(2, .inl (7, 7)), (0, .inr (.inr 1)), (1, .inl (64, 64))], [((1, 45), .inl (6, 6)), ((1, 41), .inr (.inr 27)), ((4, 12), .inl (7, 12))], [(0, 5)], [(0, 1), (1, 2)]), (7, [(2, .inl (8, 8)), (0, .inr (.inr 1)), (1, .inl (64, 64))], [((1, 45), .inl (7, 7)), ((1, 41), .inr (.inr 27)), ((4, 12), .inl (8, 12))], [(0, 4)], [(0, 1), (1, 2)]), (7, [(2, .inl (9, 9)), (0, .inr (.inr 1)), (1, .inl (64, 64))], [((1, 45), .inl (8, 8)), ((1, 41), .inr (.inr 27)), ((4, 12), .inl (9, 12))], [(0, 3)], [(0, 1), (1, 2)]), (7, [(2, .inl (10, 10)), (0, .inr (.inr 1)), (1, .inl (64, 64))], [((1, 45), .inl (9, 9)), ((1, 41), .inr (.inr 27)), ((4, 12), .inl (10, 12))], [(0, 2)], [(0, 1), (1, 2)]), (7, [(2, .inl (11, 11)), (0, .inr (.inr 1)), (1, .inl (64, 64))], [((1, 45), .inl (10, 10)), ((1, 41), .inr (.inr 27)), ((4, 12), .inl (11, 12))], [(0, 1)], [(0, 1), (1, 2)]), (7, [(2, .inl (12, 12)), (0, .inr (.inr 1)), (1, .inl (64, 64))], [((1, 45), .inl (11, 11)), ((1, 41), .inr (.inr 27)), ((4, 12), .inl (12, 12))], [(0, 0)], [(0, 1), (1, 2)])]
def km201_s : List fx_D := []
def km201_x : fx_X := ([], [(92, 12, 41), (95, 12, 42), (384, 12, 45)], [(384, 12, 45, 0)], [], [], [(20, 474, 1000, km189_c), (20, 474, 1000, km190_c), (20, 474, 1000, km191_c), (20, 474, 1000, km192_c), (20, 474, 1000, km193_c), (20, 474, 1000, km194_c), (20, 474, 1000, km195_c), (20, 474, 1000, km196_c), (20, 474, 1000, km197_c), (20, 474, 1000, km198_c), (20, 474, 1000, km199_c), (20, 474, 1000, km200_c)])
set_option maxRecDepth 100000 in
theorem km201_k : fx_chk TM 3 km201_c 9 km201_x t_X12_layWithout km201_a km201_s 32 = true := by decide +kernel
set_option maxRecDepth 100000 in
theorem km201 {l : Launch} {E : (Nat → Prop) → State → Prop} {ad : List Nat} {D : va_G} {cy : Nat → ClassId} (h : fx_env E D classes (tys cy) nestW) : fx_Met l yX12_layWithout (.code yX12_layWithout cX12_layWithout 3 none :: wsL_law) ({ frames := 1, cells := 0, slots := 0, locals := 21 }) E (gsM, TM, cy, fun _ => True) ad D classes km201_c :=
  fx_sound (x := km201_x) (tb := t_X12_layWithout) (an := km201_a) (sp := km201_s) (rk := 9) 32 h (fun _ _ _ _ _ _ => trivial) (fun _ _ _ _ _ _ => trivial) (ht_tys cy) (by decide) rfl ⟨fx_an, (fx_ac fl_X12_92 (fx_ac fl_X12_95 (fx_ac fl_X12_384 (fx_an)))), (fx_ac pl_X12_384 (fx_an)), fx_an, fx_an, (fx_ac (ev_S (km189 h) ⟨by decide, by decide⟩ iS_X12_has g_X12_474) (fx_ac (ev_S (km190 h) ⟨by decide, by decide⟩ iS_X12_has g_X12_474) (fx_ac (ev_S (km191 h) ⟨by decide, by decide⟩ iS_X12_has g_X12_474) (fx_ac (ev_S (km192 h) ⟨by decide, by decide⟩ iS_X12_has g_X12_474) (fx_ac (ev_S (km193 h) ⟨by decide, by decide⟩ iS_X12_has g_X12_474) (fx_ac (ev_S (km194 h) ⟨by decide, by decide⟩ iS_X12_has g_X12_474) (fx_ac (ev_S (km195 h) ⟨by decide, by decide⟩ iS_X12_has g_X12_474) (fx_ac (ev_S (km196 h) ⟨by decide, by decide⟩ iS_X12_has g_X12_474) (fx_ac (ev_S (km197 h) ⟨by decide, by decide⟩ iS_X12_has g_X12_474) (fx_ac (ev_S (km198 h) ⟨by decide, by decide⟩ iS_X12_has g_X12_474) (fx_ac (ev_S (km199 h) ⟨by decide, by decide⟩ iS_X12_has g_X12_474) (fx_ac (ev_S (km200 h) ⟨by decide, by decide⟩ iS_X12_has g_X12_474) (fx_an)))))))))))))⟩ d_X12_layWithout km201_k
-- X12_has i i ('c', 128) ('c', 0)
def km202_c : fx_C := ([.inl (128, 128), .inl (0, 0)], [], [(some (.inl (0, 0)), [.inl (128, 128), .inl (0, 0)], [])], [])
def km202_a : List fx_N := []
def km202_s : List fx_D := []
def km202_x : fx_X := ([], [], [], [], [], [])
set_option maxRecDepth 100000 in
theorem km202_k : fx_chk TM 2 km202_c 3 km202_x t_X12_has km202_a km202_s 11 = true := by decide +kernel
set_option maxRecDepth 100000 in
theorem km202 {l : Launch} {E : (Nat → Prop) → State → Prop} {ad : List Nat} {D : va_G} {cy : Nat → ClassId} (h : fx_env E D classes (tys cy) nestW) : fx_Met l yX12_has (.code yX12_has cX12_has 2 (some .boolean) :: wsL_law) ({ frames := 0, cells := 0, slots := 0, locals := 0 }) E (gsM, TM, cy, fun _ => True) ad D classes km202_c :=
  fx_sound (x := km202_x) (tb := t_X12_has) (an := km202_a) (sp := km202_s) (rk := 3) 11 h (fun _ _ _ _ _ _ => trivial) (fun _ _ _ _ _ _ => trivial) (ht_tys cy) (by decide) rfl ⟨fx_an, fx_an, fx_an, fx_an, fx_an, fx_an⟩ d_X12_has km202_k
-- X12_has i i ('c', 128) ('c', 1)
def km203_c : fx_C := ([.inl (128, 128), .inl (1, 1)], [], [(some (.inl (0, 0)), [.inl (128, 128), .inl (1, 1)], [])], [])
def km203_a : List fx_N := []
def km203_s : List fx_D := []
def km203_x : fx_X := ([], [], [], [], [], [])
set_option maxRecDepth 100000 in
theorem km203_k : fx_chk TM 2 km203_c 3 km203_x t_X12_has km203_a km203_s 11 = true := by decide +kernel
set_option maxRecDepth 100000 in
theorem km203 {l : Launch} {E : (Nat → Prop) → State → Prop} {ad : List Nat} {D : va_G} {cy : Nat → ClassId} (h : fx_env E D classes (tys cy) nestW) : fx_Met l yX12_has (.code yX12_has cX12_has 2 (some .boolean) :: wsL_law) ({ frames := 0, cells := 0, slots := 0, locals := 0 }) E (gsM, TM, cy, fun _ => True) ad D classes km203_c :=
  fx_sound (x := km203_x) (tb := t_X12_has) (an := km203_a) (sp := km203_s) (rk := 3) 11 h (fun _ _ _ _ _ _ => trivial) (fun _ _ _ _ _ _ => trivial) (ht_tys cy) (by decide) rfl ⟨fx_an, fx_an, fx_an, fx_an, fx_an, fx_an⟩ d_X12_has km203_k
-- X12_has i i ('c', 128) ('c', 2)
def km204_c : fx_C := ([.inl (128, 128), .inl (2, 2)], [], [(some (.inl (0, 0)), [.inl (128, 128), .inl (2, 2)], [])], [])
def km204_a : List fx_N := []
def km204_s : List fx_D := []
def km204_x : fx_X := ([], [], [], [], [], [])
set_option maxRecDepth 100000 in
theorem km204_k : fx_chk TM 2 km204_c 3 km204_x t_X12_has km204_a km204_s 11 = true := by decide +kernel
set_option maxRecDepth 100000 in
theorem km204 {l : Launch} {E : (Nat → Prop) → State → Prop} {ad : List Nat} {D : va_G} {cy : Nat → ClassId} (h : fx_env E D classes (tys cy) nestW) : fx_Met l yX12_has (.code yX12_has cX12_has 2 (some .boolean) :: wsL_law) ({ frames := 0, cells := 0, slots := 0, locals := 0 }) E (gsM, TM, cy, fun _ => True) ad D classes km204_c :=
  fx_sound (x := km204_x) (tb := t_X12_has) (an := km204_a) (sp := km204_s) (rk := 3) 11 h (fun _ _ _ _ _ _ => trivial) (fun _ _ _ _ _ _ => trivial) (ht_tys cy) (by decide) rfl ⟨fx_an, fx_an, fx_an, fx_an, fx_an, fx_an⟩ d_X12_has km204_k
-- X12_has i i ('c', 128) ('c', 3)
def km205_c : fx_C := ([.inl (128, 128), .inl (3, 3)], [], [(some (.inl (0, 0)), [.inl (128, 128), .inl (3, 3)], [])], [])
def km205_a : List fx_N := []
def km205_s : List fx_D := []
def km205_x : fx_X := ([], [], [], [], [], [])
set_option maxRecDepth 100000 in
theorem km205_k : fx_chk TM 2 km205_c 3 km205_x t_X12_has km205_a km205_s 11 = true := by decide +kernel
set_option maxRecDepth 100000 in
theorem km205 {l : Launch} {E : (Nat → Prop) → State → Prop} {ad : List Nat} {D : va_G} {cy : Nat → ClassId} (h : fx_env E D classes (tys cy) nestW) : fx_Met l yX12_has (.code yX12_has cX12_has 2 (some .boolean) :: wsL_law) ({ frames := 0, cells := 0, slots := 0, locals := 0 }) E (gsM, TM, cy, fun _ => True) ad D classes km205_c :=
  fx_sound (x := km205_x) (tb := t_X12_has) (an := km205_a) (sp := km205_s) (rk := 3) 11 h (fun _ _ _ _ _ _ => trivial) (fun _ _ _ _ _ _ => trivial) (ht_tys cy) (by decide) rfl ⟨fx_an, fx_an, fx_an, fx_an, fx_an, fx_an⟩ d_X12_has km205_k
-- X12_has i i ('c', 128) ('c', 4)
def km206_c : fx_C := ([.inl (128, 128), .inl (4, 4)], [], [(some (.inl (0, 0)), [.inl (128, 128), .inl (4, 4)], [])], [])
def km206_a : List fx_N := []
def km206_s : List fx_D := []
def km206_x : fx_X := ([], [], [], [], [], [])
set_option maxRecDepth 100000 in
theorem km206_k : fx_chk TM 2 km206_c 3 km206_x t_X12_has km206_a km206_s 11 = true := by decide +kernel
set_option maxRecDepth 100000 in
theorem km206 {l : Launch} {E : (Nat → Prop) → State → Prop} {ad : List Nat} {D : va_G} {cy : Nat → ClassId} (h : fx_env E D classes (tys cy) nestW) : fx_Met l yX12_has (.code yX12_has cX12_has 2 (some .boolean) :: wsL_law) ({ frames := 0, cells := 0, slots := 0, locals := 0 }) E (gsM, TM, cy, fun _ => True) ad D classes km206_c :=
  fx_sound (x := km206_x) (tb := t_X12_has) (an := km206_a) (sp := km206_s) (rk := 3) 11 h (fun _ _ _ _ _ _ => trivial) (fun _ _ _ _ _ _ => trivial) (ht_tys cy) (by decide) rfl ⟨fx_an, fx_an, fx_an, fx_an, fx_an, fx_an⟩ d_X12_has km206_k
-- X12_has i i ('c', 128) ('c', 5)
def km207_c : fx_C := ([.inl (128, 128), .inl (5, 5)], [], [(some (.inl (0, 0)), [.inl (128, 128), .inl (5, 5)], [])], [])
def km207_a : List fx_N := []
def km207_s : List fx_D := []
def km207_x : fx_X := ([], [], [], [], [], [])
set_option maxRecDepth 100000 in
theorem km207_k : fx_chk TM 2 km207_c 3 km207_x t_X12_has km207_a km207_s 11 = true := by decide +kernel
set_option maxRecDepth 100000 in
theorem km207 {l : Launch} {E : (Nat → Prop) → State → Prop} {ad : List Nat} {D : va_G} {cy : Nat → ClassId} (h : fx_env E D classes (tys cy) nestW) : fx_Met l yX12_has (.code yX12_has cX12_has 2 (some .boolean) :: wsL_law) ({ frames := 0, cells := 0, slots := 0, locals := 0 }) E (gsM, TM, cy, fun _ => True) ad D classes km207_c :=
  fx_sound (x := km207_x) (tb := t_X12_has) (an := km207_a) (sp := km207_s) (rk := 3) 11 h (fun _ _ _ _ _ _ => trivial) (fun _ _ _ _ _ _ => trivial) (ht_tys cy) (by decide) rfl ⟨fx_an, fx_an, fx_an, fx_an, fx_an, fx_an⟩ d_X12_has km207_k
-- X12_has i i ('c', 128) ('c', 6)
def km208_c : fx_C := ([.inl (128, 128), .inl (6, 6)], [], [(some (.inl (0, 0)), [.inl (128, 128), .inl (6, 6)], [])], [])
def km208_a : List fx_N := []
def km208_s : List fx_D := []
def km208_x : fx_X := ([], [], [], [], [], [])
set_option maxRecDepth 100000 in
theorem km208_k : fx_chk TM 2 km208_c 3 km208_x t_X12_has km208_a km208_s 11 = true := by decide +kernel
set_option maxRecDepth 100000 in
theorem km208 {l : Launch} {E : (Nat → Prop) → State → Prop} {ad : List Nat} {D : va_G} {cy : Nat → ClassId} (h : fx_env E D classes (tys cy) nestW) : fx_Met l yX12_has (.code yX12_has cX12_has 2 (some .boolean) :: wsL_law) ({ frames := 0, cells := 0, slots := 0, locals := 0 }) E (gsM, TM, cy, fun _ => True) ad D classes km208_c :=
  fx_sound (x := km208_x) (tb := t_X12_has) (an := km208_a) (sp := km208_s) (rk := 3) 11 h (fun _ _ _ _ _ _ => trivial) (fun _ _ _ _ _ _ => trivial) (ht_tys cy) (by decide) rfl ⟨fx_an, fx_an, fx_an, fx_an, fx_an, fx_an⟩ d_X12_has km208_k
-- X12_has i i ('c', 128) ('c', 7)
def km209_c : fx_C := ([.inl (128, 128), .inl (7, 7)], [], [(some (.inl (1, 1)), [.inl (128, 128), .inl (7, 7)], [])], [])
def km209_a : List fx_N := []
def km209_s : List fx_D := []
def km209_x : fx_X := ([], [], [], [], [], [])
set_option maxRecDepth 100000 in
theorem km209_k : fx_chk TM 2 km209_c 3 km209_x t_X12_has km209_a km209_s 12 = true := by decide +kernel
set_option maxRecDepth 100000 in
theorem km209 {l : Launch} {E : (Nat → Prop) → State → Prop} {ad : List Nat} {D : va_G} {cy : Nat → ClassId} (h : fx_env E D classes (tys cy) nestW) : fx_Met l yX12_has (.code yX12_has cX12_has 2 (some .boolean) :: wsL_law) ({ frames := 0, cells := 0, slots := 0, locals := 0 }) E (gsM, TM, cy, fun _ => True) ad D classes km209_c :=
  fx_sound (x := km209_x) (tb := t_X12_has) (an := km209_a) (sp := km209_s) (rk := 3) 12 h (fun _ _ _ _ _ _ => trivial) (fun _ _ _ _ _ _ => trivial) (ht_tys cy) (by decide) rfl ⟨fx_an, fx_an, fx_an, fx_an, fx_an, fx_an⟩ d_X12_has km209_k
-- X12_has i i ('c', 128) ('c', 8)
def km210_c : fx_C := ([.inl (128, 128), .inl (8, 8)], [], [(some (.inl (0, 0)), [.inl (128, 128), .inl (8, 8)], [])], [])
def km210_a : List fx_N := []
def km210_s : List fx_D := []
def km210_x : fx_X := ([], [], [], [], [], [])
set_option maxRecDepth 100000 in
theorem km210_k : fx_chk TM 2 km210_c 3 km210_x t_X12_has km210_a km210_s 11 = true := by decide +kernel
set_option maxRecDepth 100000 in
theorem km210 {l : Launch} {E : (Nat → Prop) → State → Prop} {ad : List Nat} {D : va_G} {cy : Nat → ClassId} (h : fx_env E D classes (tys cy) nestW) : fx_Met l yX12_has (.code yX12_has cX12_has 2 (some .boolean) :: wsL_law) ({ frames := 0, cells := 0, slots := 0, locals := 0 }) E (gsM, TM, cy, fun _ => True) ad D classes km210_c :=
  fx_sound (x := km210_x) (tb := t_X12_has) (an := km210_a) (sp := km210_s) (rk := 3) 11 h (fun _ _ _ _ _ _ => trivial) (fun _ _ _ _ _ _ => trivial) (ht_tys cy) (by decide) rfl ⟨fx_an, fx_an, fx_an, fx_an, fx_an, fx_an⟩ d_X12_has km210_k
-- X12_has i i ('c', 128) ('c', 9)
def km211_c : fx_C := ([.inl (128, 128), .inl (9, 9)], [], [(some (.inl (0, 0)), [.inl (128, 128), .inl (9, 9)], [])], [])
def km211_a : List fx_N := []
def km211_s : List fx_D := []
def km211_x : fx_X := ([], [], [], [], [], [])
set_option maxRecDepth 100000 in
theorem km211_k : fx_chk TM 2 km211_c 3 km211_x t_X12_has km211_a km211_s 11 = true := by decide +kernel
set_option maxRecDepth 100000 in
theorem km211 {l : Launch} {E : (Nat → Prop) → State → Prop} {ad : List Nat} {D : va_G} {cy : Nat → ClassId} (h : fx_env E D classes (tys cy) nestW) : fx_Met l yX12_has (.code yX12_has cX12_has 2 (some .boolean) :: wsL_law) ({ frames := 0, cells := 0, slots := 0, locals := 0 }) E (gsM, TM, cy, fun _ => True) ad D classes km211_c :=
  fx_sound (x := km211_x) (tb := t_X12_has) (an := km211_a) (sp := km211_s) (rk := 3) 11 h (fun _ _ _ _ _ _ => trivial) (fun _ _ _ _ _ _ => trivial) (ht_tys cy) (by decide) rfl ⟨fx_an, fx_an, fx_an, fx_an, fx_an, fx_an⟩ d_X12_has km211_k
-- X12_has i i ('c', 128) ('c', 10)
def km212_c : fx_C := ([.inl (128, 128), .inl (10, 10)], [], [(some (.inl (0, 0)), [.inl (128, 128), .inl (10, 10)], [])], [])
def km212_a : List fx_N := []
def km212_s : List fx_D := []
def km212_x : fx_X := ([], [], [], [], [], [])
set_option maxRecDepth 100000 in
theorem km212_k : fx_chk TM 2 km212_c 3 km212_x t_X12_has km212_a km212_s 11 = true := by decide +kernel
set_option maxRecDepth 100000 in
theorem km212 {l : Launch} {E : (Nat → Prop) → State → Prop} {ad : List Nat} {D : va_G} {cy : Nat → ClassId} (h : fx_env E D classes (tys cy) nestW) : fx_Met l yX12_has (.code yX12_has cX12_has 2 (some .boolean) :: wsL_law) ({ frames := 0, cells := 0, slots := 0, locals := 0 }) E (gsM, TM, cy, fun _ => True) ad D classes km212_c :=
  fx_sound (x := km212_x) (tb := t_X12_has) (an := km212_a) (sp := km212_s) (rk := 3) 11 h (fun _ _ _ _ _ _ => trivial) (fun _ _ _ _ _ _ => trivial) (ht_tys cy) (by decide) rfl ⟨fx_an, fx_an, fx_an, fx_an, fx_an, fx_an⟩ d_X12_has km212_k
-- X12_has i i ('c', 128) ('c', 11)
def km213_c : fx_C := ([.inl (128, 128), .inl (11, 11)], [], [(some (.inl (0, 0)), [.inl (128, 128), .inl (11, 11)], [])], [])
def km213_a : List fx_N := []
def km213_s : List fx_D := []
def km213_x : fx_X := ([], [], [], [], [], [])
set_option maxRecDepth 100000 in
theorem km213_k : fx_chk TM 2 km213_c 3 km213_x t_X12_has km213_a km213_s 11 = true := by decide +kernel
set_option maxRecDepth 100000 in
theorem km213 {l : Launch} {E : (Nat → Prop) → State → Prop} {ad : List Nat} {D : va_G} {cy : Nat → ClassId} (h : fx_env E D classes (tys cy) nestW) : fx_Met l yX12_has (.code yX12_has cX12_has 2 (some .boolean) :: wsL_law) ({ frames := 0, cells := 0, slots := 0, locals := 0 }) E (gsM, TM, cy, fun _ => True) ad D classes km213_c :=
  fx_sound (x := km213_x) (tb := t_X12_has) (an := km213_a) (sp := km213_s) (rk := 3) 11 h (fun _ _ _ _ _ _ => trivial) (fun _ _ _ _ _ _ => trivial) (ht_tys cy) (by decide) rfl ⟨fx_an, fx_an, fx_an, fx_an, fx_an, fx_an⟩ d_X12_has km213_k
-- X12_layWithout 0 i ('c', 128)
def km214_c : fx_C := ([.inr (.inr 1), .inl (128, 128)], [], [(none, [.inr (.inr 1), .inl (128, 128)], [((0, 45), .inl (0, 11))])], [(12, 45), (1000, 27)])
def km214_a : List fx_N := [(7, [(2, .inl (0, 0)), (0, .inr (.inr 1)), (1, .inl (128, 128))], [((1, 45), .inl (0, 0))], [(0, 12)], [(0, 1), (1, 2)]), (7, [(2, .inl (1, 1)), (0, .inr (.inr 1)), (1, .inl (128, 128))], [((1, 45), .inl (1, 1)), ((1, 41), .inr (.inr 27)), ((4, 12), .inl (1, 12))], [(0, 11)], [(0, 1), (1, 2)]), (7, [(2, .inl (2, 2)), (0, .inr (.inr 1)), (1, .inl (128, 128))], [((1, 45), .inl (2, 2)), ((1, 41), .inr (.inr 27)), ((4, 12), .inl (2, 12))], [(0, 10)], [(0, 1), (1, 2)]), (7, [(2, .inl (3, 3)), (0, .inr (.inr 1)), (1, .inl (128, 128))], [((1, 45), .inl (3, 3)), ((1, 41), .inr (.inr 27)), ((4, 12), .inl (3, 12))], [(0, 9)], [(0, 1), (1, 2)]), (7, [(2, .inl (4, 4)), (0, .inr (.inr 1)), (1, .inl (128, 128))], [((1, 45), .inl (4, 4)), ((1, 41), .inr (.inr 27)), ((4, 12), .inl (4, 12))], [(0, 8)], [(0, 1), (1, 2)]), (7, [(2, .inl (5, 5)), (0, .inr (.inr 1)), (1, .inl (128, 128))], [((1, 45), .inl (5, 5)), ((1, 41), .inr (.inr 27)), ((4, 12), .inl (5, 12))], [(0, 7)], [(0, 1), (1, 2)]), (7, [(2, .inl (6, 6)), (0, .inr (.inr 1)), (1, .inl (128, 128))], [((1, 45), .inl (6, 6)), ((1, 41), .inr (.inr 27)), ((4, 12), .inl (6, 12))], [(0, 6)], [(0, 1), (1, 2)]), (7, [(2, .inl (7, 7)), (0, .inr (.inr 1)), (1, .inl (128, 128))], [((1, 45), .inl (7, 7)), ((1, 41), .inr (.inr 27)), ((4, 12), .inl (7, 12))], [(0, 5)], [(0, 1), (1, 2)]), (7, [(2, .inl (8, 8)), (0, .inr (.inr 1)), (1, .inl (128, 128))], [((1, 45), .inl (7, 7)), ((1, 41), .inr (.inr 27)), ((4, 12), .inl (8, 12))], [(0, 4)], [(0, 1), (1, 2)]), (7, [(2, .inl (9, 9)), (0, .inr (.inr 1)), (1, .inl (128, 128))], [((1, 45), .inl (8, 8)), ((1, 41), .inr (.inr 27)), ((4, 12), .inl (9, 12))], [(0, 3)], [(0, 1), (1, 2)]), (7, [(2, .inl (10, 10)), (0, .inr (.inr 1)), (1, .inl (128, 128))], [((1, 45), .inl (9, 9)), ((1, 41), .inr (.inr 27)), ((4, 12), .inl (10, 12))], [(0, 2)], [(0, 1), (1, 2)]), (7, [(2, .inl (11, 11)), (0, .inr (.inr 1)), (1, .inl (128, 128))], [((1, 45), .inl (10, 10)), ((1, 41), .inr (.inr 27)), ((4, 12), .inl (11, 12))], [(0, 1)], [(0, 1), (1, 2)]), (7, [(2, .inl (12, 12)), (0, .inr (.inr 1)), (1, .inl (128, 128))], [((1, 45), .inl (11, 11)), ((1, 41), .inr (.inr 27)), ((4, 12), .inl (12, 12))], [(0, 0)], [(0, 1), (1, 2)])]
def km214_s : List fx_D := []
def km214_x : fx_X := ([], [(92, 12, 41), (95, 12, 42), (384, 12, 45)], [(384, 12, 45, 0)], [], [], [(20, 474, 1000, km202_c), (20, 474, 1000, km203_c), (20, 474, 1000, km204_c), (20, 474, 1000, km205_c), (20, 474, 1000, km206_c), (20, 474, 1000, km207_c), (20, 474, 1000, km208_c), (20, 474, 1000, km209_c), (20, 474, 1000, km210_c), (20, 474, 1000, km211_c), (20, 474, 1000, km212_c), (20, 474, 1000, km213_c)])
set_option maxRecDepth 100000 in
theorem km214_k : fx_chk TM 3 km214_c 9 km214_x t_X12_layWithout km214_a km214_s 32 = true := by decide +kernel
set_option maxRecDepth 100000 in
theorem km214 {l : Launch} {E : (Nat → Prop) → State → Prop} {ad : List Nat} {D : va_G} {cy : Nat → ClassId} (h : fx_env E D classes (tys cy) nestW) : fx_Met l yX12_layWithout (.code yX12_layWithout cX12_layWithout 3 none :: wsL_law) ({ frames := 1, cells := 0, slots := 0, locals := 21 }) E (gsM, TM, cy, fun _ => True) ad D classes km214_c :=
  fx_sound (x := km214_x) (tb := t_X12_layWithout) (an := km214_a) (sp := km214_s) (rk := 9) 32 h (fun _ _ _ _ _ _ => trivial) (fun _ _ _ _ _ _ => trivial) (ht_tys cy) (by decide) rfl ⟨fx_an, (fx_ac fl_X12_92 (fx_ac fl_X12_95 (fx_ac fl_X12_384 (fx_an)))), (fx_ac pl_X12_384 (fx_an)), fx_an, fx_an, (fx_ac (ev_S (km202 h) ⟨by decide, by decide⟩ iS_X12_has g_X12_474) (fx_ac (ev_S (km203 h) ⟨by decide, by decide⟩ iS_X12_has g_X12_474) (fx_ac (ev_S (km204 h) ⟨by decide, by decide⟩ iS_X12_has g_X12_474) (fx_ac (ev_S (km205 h) ⟨by decide, by decide⟩ iS_X12_has g_X12_474) (fx_ac (ev_S (km206 h) ⟨by decide, by decide⟩ iS_X12_has g_X12_474) (fx_ac (ev_S (km207 h) ⟨by decide, by decide⟩ iS_X12_has g_X12_474) (fx_ac (ev_S (km208 h) ⟨by decide, by decide⟩ iS_X12_has g_X12_474) (fx_ac (ev_S (km209 h) ⟨by decide, by decide⟩ iS_X12_has g_X12_474) (fx_ac (ev_S (km210 h) ⟨by decide, by decide⟩ iS_X12_has g_X12_474) (fx_ac (ev_S (km211 h) ⟨by decide, by decide⟩ iS_X12_has g_X12_474) (fx_ac (ev_S (km212 h) ⟨by decide, by decide⟩ iS_X12_has g_X12_474) (fx_ac (ev_S (km213 h) ⟨by decide, by decide⟩ iS_X12_has g_X12_474) (fx_an)))))))))))))⟩ d_X12_layWithout km214_k
-- X12_has i i ('c', 256) ('c', 0)
def km215_c : fx_C := ([.inl (256, 256), .inl (0, 0)], [], [(some (.inl (0, 0)), [.inl (256, 256), .inl (0, 0)], [])], [])
def km215_a : List fx_N := []
def km215_s : List fx_D := []
def km215_x : fx_X := ([], [], [], [], [], [])
set_option maxRecDepth 100000 in
theorem km215_k : fx_chk TM 2 km215_c 3 km215_x t_X12_has km215_a km215_s 11 = true := by decide +kernel
set_option maxRecDepth 100000 in
theorem km215 {l : Launch} {E : (Nat → Prop) → State → Prop} {ad : List Nat} {D : va_G} {cy : Nat → ClassId} (h : fx_env E D classes (tys cy) nestW) : fx_Met l yX12_has (.code yX12_has cX12_has 2 (some .boolean) :: wsL_law) ({ frames := 0, cells := 0, slots := 0, locals := 0 }) E (gsM, TM, cy, fun _ => True) ad D classes km215_c :=
  fx_sound (x := km215_x) (tb := t_X12_has) (an := km215_a) (sp := km215_s) (rk := 3) 11 h (fun _ _ _ _ _ _ => trivial) (fun _ _ _ _ _ _ => trivial) (ht_tys cy) (by decide) rfl ⟨fx_an, fx_an, fx_an, fx_an, fx_an, fx_an⟩ d_X12_has km215_k
-- X12_has i i ('c', 256) ('c', 1)
def km216_c : fx_C := ([.inl (256, 256), .inl (1, 1)], [], [(some (.inl (0, 0)), [.inl (256, 256), .inl (1, 1)], [])], [])
def km216_a : List fx_N := []
def km216_s : List fx_D := []
def km216_x : fx_X := ([], [], [], [], [], [])
set_option maxRecDepth 100000 in
theorem km216_k : fx_chk TM 2 km216_c 3 km216_x t_X12_has km216_a km216_s 11 = true := by decide +kernel
set_option maxRecDepth 100000 in
theorem km216 {l : Launch} {E : (Nat → Prop) → State → Prop} {ad : List Nat} {D : va_G} {cy : Nat → ClassId} (h : fx_env E D classes (tys cy) nestW) : fx_Met l yX12_has (.code yX12_has cX12_has 2 (some .boolean) :: wsL_law) ({ frames := 0, cells := 0, slots := 0, locals := 0 }) E (gsM, TM, cy, fun _ => True) ad D classes km216_c :=
  fx_sound (x := km216_x) (tb := t_X12_has) (an := km216_a) (sp := km216_s) (rk := 3) 11 h (fun _ _ _ _ _ _ => trivial) (fun _ _ _ _ _ _ => trivial) (ht_tys cy) (by decide) rfl ⟨fx_an, fx_an, fx_an, fx_an, fx_an, fx_an⟩ d_X12_has km216_k
-- X12_has i i ('c', 256) ('c', 2)
def km217_c : fx_C := ([.inl (256, 256), .inl (2, 2)], [], [(some (.inl (0, 0)), [.inl (256, 256), .inl (2, 2)], [])], [])
def km217_a : List fx_N := []
def km217_s : List fx_D := []
def km217_x : fx_X := ([], [], [], [], [], [])
set_option maxRecDepth 100000 in
theorem km217_k : fx_chk TM 2 km217_c 3 km217_x t_X12_has km217_a km217_s 11 = true := by decide +kernel
set_option maxRecDepth 100000 in
theorem km217 {l : Launch} {E : (Nat → Prop) → State → Prop} {ad : List Nat} {D : va_G} {cy : Nat → ClassId} (h : fx_env E D classes (tys cy) nestW) : fx_Met l yX12_has (.code yX12_has cX12_has 2 (some .boolean) :: wsL_law) ({ frames := 0, cells := 0, slots := 0, locals := 0 }) E (gsM, TM, cy, fun _ => True) ad D classes km217_c :=
  fx_sound (x := km217_x) (tb := t_X12_has) (an := km217_a) (sp := km217_s) (rk := 3) 11 h (fun _ _ _ _ _ _ => trivial) (fun _ _ _ _ _ _ => trivial) (ht_tys cy) (by decide) rfl ⟨fx_an, fx_an, fx_an, fx_an, fx_an, fx_an⟩ d_X12_has km217_k
-- X12_has i i ('c', 256) ('c', 3)
def km218_c : fx_C := ([.inl (256, 256), .inl (3, 3)], [], [(some (.inl (0, 0)), [.inl (256, 256), .inl (3, 3)], [])], [])
def km218_a : List fx_N := []
def km218_s : List fx_D := []
def km218_x : fx_X := ([], [], [], [], [], [])
set_option maxRecDepth 100000 in
theorem km218_k : fx_chk TM 2 km218_c 3 km218_x t_X12_has km218_a km218_s 11 = true := by decide +kernel
set_option maxRecDepth 100000 in
theorem km218 {l : Launch} {E : (Nat → Prop) → State → Prop} {ad : List Nat} {D : va_G} {cy : Nat → ClassId} (h : fx_env E D classes (tys cy) nestW) : fx_Met l yX12_has (.code yX12_has cX12_has 2 (some .boolean) :: wsL_law) ({ frames := 0, cells := 0, slots := 0, locals := 0 }) E (gsM, TM, cy, fun _ => True) ad D classes km218_c :=
  fx_sound (x := km218_x) (tb := t_X12_has) (an := km218_a) (sp := km218_s) (rk := 3) 11 h (fun _ _ _ _ _ _ => trivial) (fun _ _ _ _ _ _ => trivial) (ht_tys cy) (by decide) rfl ⟨fx_an, fx_an, fx_an, fx_an, fx_an, fx_an⟩ d_X12_has km218_k
-- X12_has i i ('c', 256) ('c', 4)
def km219_c : fx_C := ([.inl (256, 256), .inl (4, 4)], [], [(some (.inl (0, 0)), [.inl (256, 256), .inl (4, 4)], [])], [])
def km219_a : List fx_N := []
def km219_s : List fx_D := []
def km219_x : fx_X := ([], [], [], [], [], [])
set_option maxRecDepth 100000 in
theorem km219_k : fx_chk TM 2 km219_c 3 km219_x t_X12_has km219_a km219_s 11 = true := by decide +kernel
set_option maxRecDepth 100000 in
theorem km219 {l : Launch} {E : (Nat → Prop) → State → Prop} {ad : List Nat} {D : va_G} {cy : Nat → ClassId} (h : fx_env E D classes (tys cy) nestW) : fx_Met l yX12_has (.code yX12_has cX12_has 2 (some .boolean) :: wsL_law) ({ frames := 0, cells := 0, slots := 0, locals := 0 }) E (gsM, TM, cy, fun _ => True) ad D classes km219_c :=
  fx_sound (x := km219_x) (tb := t_X12_has) (an := km219_a) (sp := km219_s) (rk := 3) 11 h (fun _ _ _ _ _ _ => trivial) (fun _ _ _ _ _ _ => trivial) (ht_tys cy) (by decide) rfl ⟨fx_an, fx_an, fx_an, fx_an, fx_an, fx_an⟩ d_X12_has km219_k
-- X12_has i i ('c', 256) ('c', 5)
def km220_c : fx_C := ([.inl (256, 256), .inl (5, 5)], [], [(some (.inl (0, 0)), [.inl (256, 256), .inl (5, 5)], [])], [])
def km220_a : List fx_N := []
def km220_s : List fx_D := []
def km220_x : fx_X := ([], [], [], [], [], [])
set_option maxRecDepth 100000 in
theorem km220_k : fx_chk TM 2 km220_c 3 km220_x t_X12_has km220_a km220_s 11 = true := by decide +kernel
set_option maxRecDepth 100000 in
theorem km220 {l : Launch} {E : (Nat → Prop) → State → Prop} {ad : List Nat} {D : va_G} {cy : Nat → ClassId} (h : fx_env E D classes (tys cy) nestW) : fx_Met l yX12_has (.code yX12_has cX12_has 2 (some .boolean) :: wsL_law) ({ frames := 0, cells := 0, slots := 0, locals := 0 }) E (gsM, TM, cy, fun _ => True) ad D classes km220_c :=
  fx_sound (x := km220_x) (tb := t_X12_has) (an := km220_a) (sp := km220_s) (rk := 3) 11 h (fun _ _ _ _ _ _ => trivial) (fun _ _ _ _ _ _ => trivial) (ht_tys cy) (by decide) rfl ⟨fx_an, fx_an, fx_an, fx_an, fx_an, fx_an⟩ d_X12_has km220_k
-- X12_has i i ('c', 256) ('c', 6)
def km221_c : fx_C := ([.inl (256, 256), .inl (6, 6)], [], [(some (.inl (0, 0)), [.inl (256, 256), .inl (6, 6)], [])], [])
def km221_a : List fx_N := []
def km221_s : List fx_D := []
def km221_x : fx_X := ([], [], [], [], [], [])
set_option maxRecDepth 100000 in
theorem km221_k : fx_chk TM 2 km221_c 3 km221_x t_X12_has km221_a km221_s 11 = true := by decide +kernel
set_option maxRecDepth 100000 in
theorem km221 {l : Launch} {E : (Nat → Prop) → State → Prop} {ad : List Nat} {D : va_G} {cy : Nat → ClassId} (h : fx_env E D classes (tys cy) nestW) : fx_Met l yX12_has (.code yX12_has cX12_has 2 (some .boolean) :: wsL_law) ({ frames := 0, cells := 0, slots := 0, locals := 0 }) E (gsM, TM, cy, fun _ => True) ad D classes km221_c :=
  fx_sound (x := km221_x) (tb := t_X12_has) (an := km221_a) (sp := km221_s) (rk := 3) 11 h (fun _ _ _ _ _ _ => trivial) (fun _ _ _ _ _ _ => trivial) (ht_tys cy) (by decide) rfl ⟨fx_an, fx_an, fx_an, fx_an, fx_an, fx_an⟩ d_X12_has km221_k
-- X12_has i i ('c', 256) ('c', 7)
def km222_c : fx_C := ([.inl (256, 256), .inl (7, 7)], [], [(some (.inl (0, 0)), [.inl (256, 256), .inl (7, 7)], [])], [])
def km222_a : List fx_N := []
def km222_s : List fx_D := []
def km222_x : fx_X := ([], [], [], [], [], [])
set_option maxRecDepth 100000 in
theorem km222_k : fx_chk TM 2 km222_c 3 km222_x t_X12_has km222_a km222_s 11 = true := by decide +kernel
set_option maxRecDepth 100000 in
theorem km222 {l : Launch} {E : (Nat → Prop) → State → Prop} {ad : List Nat} {D : va_G} {cy : Nat → ClassId} (h : fx_env E D classes (tys cy) nestW) : fx_Met l yX12_has (.code yX12_has cX12_has 2 (some .boolean) :: wsL_law) ({ frames := 0, cells := 0, slots := 0, locals := 0 }) E (gsM, TM, cy, fun _ => True) ad D classes km222_c :=
  fx_sound (x := km222_x) (tb := t_X12_has) (an := km222_a) (sp := km222_s) (rk := 3) 11 h (fun _ _ _ _ _ _ => trivial) (fun _ _ _ _ _ _ => trivial) (ht_tys cy) (by decide) rfl ⟨fx_an, fx_an, fx_an, fx_an, fx_an, fx_an⟩ d_X12_has km222_k
-- X12_has i i ('c', 256) ('c', 8)
def km223_c : fx_C := ([.inl (256, 256), .inl (8, 8)], [], [(some (.inl (1, 1)), [.inl (256, 256), .inl (8, 8)], [])], [])
def km223_a : List fx_N := []
def km223_s : List fx_D := []
def km223_x : fx_X := ([], [], [], [], [], [])
set_option maxRecDepth 100000 in
theorem km223_k : fx_chk TM 2 km223_c 3 km223_x t_X12_has km223_a km223_s 12 = true := by decide +kernel
set_option maxRecDepth 100000 in
theorem km223 {l : Launch} {E : (Nat → Prop) → State → Prop} {ad : List Nat} {D : va_G} {cy : Nat → ClassId} (h : fx_env E D classes (tys cy) nestW) : fx_Met l yX12_has (.code yX12_has cX12_has 2 (some .boolean) :: wsL_law) ({ frames := 0, cells := 0, slots := 0, locals := 0 }) E (gsM, TM, cy, fun _ => True) ad D classes km223_c :=
  fx_sound (x := km223_x) (tb := t_X12_has) (an := km223_a) (sp := km223_s) (rk := 3) 12 h (fun _ _ _ _ _ _ => trivial) (fun _ _ _ _ _ _ => trivial) (ht_tys cy) (by decide) rfl ⟨fx_an, fx_an, fx_an, fx_an, fx_an, fx_an⟩ d_X12_has km223_k
-- X12_has i i ('c', 256) ('c', 9)
def km224_c : fx_C := ([.inl (256, 256), .inl (9, 9)], [], [(some (.inl (0, 0)), [.inl (256, 256), .inl (9, 9)], [])], [])
def km224_a : List fx_N := []
def km224_s : List fx_D := []
def km224_x : fx_X := ([], [], [], [], [], [])
set_option maxRecDepth 100000 in
theorem km224_k : fx_chk TM 2 km224_c 3 km224_x t_X12_has km224_a km224_s 11 = true := by decide +kernel
set_option maxRecDepth 100000 in
theorem km224 {l : Launch} {E : (Nat → Prop) → State → Prop} {ad : List Nat} {D : va_G} {cy : Nat → ClassId} (h : fx_env E D classes (tys cy) nestW) : fx_Met l yX12_has (.code yX12_has cX12_has 2 (some .boolean) :: wsL_law) ({ frames := 0, cells := 0, slots := 0, locals := 0 }) E (gsM, TM, cy, fun _ => True) ad D classes km224_c :=
  fx_sound (x := km224_x) (tb := t_X12_has) (an := km224_a) (sp := km224_s) (rk := 3) 11 h (fun _ _ _ _ _ _ => trivial) (fun _ _ _ _ _ _ => trivial) (ht_tys cy) (by decide) rfl ⟨fx_an, fx_an, fx_an, fx_an, fx_an, fx_an⟩ d_X12_has km224_k
-- X12_has i i ('c', 256) ('c', 10)
def km225_c : fx_C := ([.inl (256, 256), .inl (10, 10)], [], [(some (.inl (0, 0)), [.inl (256, 256), .inl (10, 10)], [])], [])
def km225_a : List fx_N := []
def km225_s : List fx_D := []
def km225_x : fx_X := ([], [], [], [], [], [])
set_option maxRecDepth 100000 in
theorem km225_k : fx_chk TM 2 km225_c 3 km225_x t_X12_has km225_a km225_s 11 = true := by decide +kernel
set_option maxRecDepth 100000 in
theorem km225 {l : Launch} {E : (Nat → Prop) → State → Prop} {ad : List Nat} {D : va_G} {cy : Nat → ClassId} (h : fx_env E D classes (tys cy) nestW) : fx_Met l yX12_has (.code yX12_has cX12_has 2 (some .boolean) :: wsL_law) ({ frames := 0, cells := 0, slots := 0, locals := 0 }) E (gsM, TM, cy, fun _ => True) ad D classes km225_c :=
  fx_sound (x := km225_x) (tb := t_X12_has) (an := km225_a) (sp := km225_s) (rk := 3) 11 h (fun _ _ _ _ _ _ => trivial) (fun _ _ _ _ _ _ => trivial) (ht_tys cy) (by decide) rfl ⟨fx_an, fx_an, fx_an, fx_an, fx_an, fx_an⟩ d_X12_has km225_k
-- X12_has i i ('c', 256) ('c', 11)
def km226_c : fx_C := ([.inl (256, 256), .inl (11, 11)], [], [(some (.inl (0, 0)), [.inl (256, 256), .inl (11, 11)], [])], [])
def km226_a : List fx_N := []
def km226_s : List fx_D := []
def km226_x : fx_X := ([], [], [], [], [], [])
set_option maxRecDepth 100000 in
theorem km226_k : fx_chk TM 2 km226_c 3 km226_x t_X12_has km226_a km226_s 11 = true := by decide +kernel
set_option maxRecDepth 100000 in
theorem km226 {l : Launch} {E : (Nat → Prop) → State → Prop} {ad : List Nat} {D : va_G} {cy : Nat → ClassId} (h : fx_env E D classes (tys cy) nestW) : fx_Met l yX12_has (.code yX12_has cX12_has 2 (some .boolean) :: wsL_law) ({ frames := 0, cells := 0, slots := 0, locals := 0 }) E (gsM, TM, cy, fun _ => True) ad D classes km226_c :=
  fx_sound (x := km226_x) (tb := t_X12_has) (an := km226_a) (sp := km226_s) (rk := 3) 11 h (fun _ _ _ _ _ _ => trivial) (fun _ _ _ _ _ _ => trivial) (ht_tys cy) (by decide) rfl ⟨fx_an, fx_an, fx_an, fx_an, fx_an, fx_an⟩ d_X12_has km226_k
-- X12_layWithout 0 i ('c', 256)
def km227_c : fx_C := ([.inr (.inr 1), .inl (256, 256)], [], [(none, [.inr (.inr 1), .inl (256, 256)], [((0, 45), .inl (0, 11))])], [(12, 45), (1000, 27)])
def km227_a : List fx_N := [(7, [(2, .inl (0, 0)), (0, .inr (.inr 1)), (1, .inl (256, 256))], [((1, 45), .inl (0, 0))], [(0, 12)], [(0, 1), (1, 2)]), (7, [(2, .inl (1, 1)), (0, .inr (.inr 1)), (1, .inl (256, 256))], [((1, 45), .inl (1, 1)), ((1, 41), .inr (.inr 27)), ((4, 12), .inl (1, 12))], [(0, 11)], [(0, 1), (1, 2)]), (7, [(2, .inl (2, 2)), (0, .inr (.inr 1)), (1, .inl (256, 256))], [((1, 45), .inl (2, 2)), ((1, 41), .inr (.inr 27)), ((4, 12), .inl (2, 12))], [(0, 10)], [(0, 1), (1, 2)]), (7, [(2, .inl (3, 3)), (0, .inr (.inr 1)), (1, .inl (256, 256))], [((1, 45), .inl (3, 3)), ((1, 41), .inr (.inr 27)), ((4, 12), .inl (3, 12))], [(0, 9)], [(0, 1), (1, 2)]), (7, [(2, .inl (4, 4)), (0, .inr (.inr 1)), (1, .inl (256, 256))], [((1, 45), .inl (4, 4)), ((1, 41), .inr (.inr 27)), ((4, 12), .inl (4, 12))], [(0, 8)], [(0, 1), (1, 2)]), (7, [(2, .inl (5, 5)), (0, .inr (.inr 1)), (1, .inl (256, 256))], [((1, 45), .inl (5, 5)), ((1, 41), .inr (.inr 27)), ((4, 12), .inl (5, 12))], [(0, 7)], [(0, 1), (1, 2)]), (7, [(2, .inl (6, 6)), (0, .inr (.inr 1)), (1, .inl (256, 256))], [((1, 45), .inl (6, 6)), ((1, 41), .inr (.inr 27)), ((4, 12), .inl (6, 12))], [(0, 6)], [(0, 1), (1, 2)]), (7, [(2, .inl (7, 7)), (0, .inr (.inr 1)), (1, .inl (256, 256))], [((1, 45), .inl (7, 7)), ((1, 41), .inr (.inr 27)), ((4, 12), .inl (7, 12))], [(0, 5)], [(0, 1), (1, 2)]), (7, [(2, .inl (8, 8)), (0, .inr (.inr 1)), (1, .inl (256, 256))], [((1, 45), .inl (8, 8)), ((1, 41), .inr (.inr 27)), ((4, 12), .inl (8, 12))], [(0, 4)], [(0, 1), (1, 2)]), (7, [(2, .inl (9, 9)), (0, .inr (.inr 1)), (1, .inl (256, 256))], [((1, 45), .inl (8, 8)), ((1, 41), .inr (.inr 27)), ((4, 12), .inl (9, 12))], [(0, 3)], [(0, 1), (1, 2)]), (7, [(2, .inl (10, 10)), (0, .inr (.inr 1)), (1, .inl (256, 256))], [((1, 45), .inl (9, 9)), ((1, 41), .inr (.inr 27)), ((4, 12), .inl (10, 12))], [(0, 2)], [(0, 1), (1, 2)]), (7, [(2, .inl (11, 11)), (0, .inr (.inr 1)), (1, .inl (256, 256))], [((1, 45), .inl (10, 10)), ((1, 41), .inr (.inr 27)), ((4, 12), .inl (11, 12))], [(0, 1)], [(0, 1), (1, 2)]), (7, [(2, .inl (12, 12)), (0, .inr (.inr 1)), (1, .inl (256, 256))], [((1, 45), .inl (11, 11)), ((1, 41), .inr (.inr 27)), ((4, 12), .inl (12, 12))], [(0, 0)], [(0, 1), (1, 2)])]
def km227_s : List fx_D := []
def km227_x : fx_X := ([], [(92, 12, 41), (95, 12, 42), (384, 12, 45)], [(384, 12, 45, 0)], [], [], [(20, 474, 1000, km215_c), (20, 474, 1000, km216_c), (20, 474, 1000, km217_c), (20, 474, 1000, km218_c), (20, 474, 1000, km219_c), (20, 474, 1000, km220_c), (20, 474, 1000, km221_c), (20, 474, 1000, km222_c), (20, 474, 1000, km223_c), (20, 474, 1000, km224_c), (20, 474, 1000, km225_c), (20, 474, 1000, km226_c)])
set_option maxRecDepth 100000 in
theorem km227_k : fx_chk TM 3 km227_c 9 km227_x t_X12_layWithout km227_a km227_s 32 = true := by decide +kernel
set_option maxRecDepth 100000 in
theorem km227 {l : Launch} {E : (Nat → Prop) → State → Prop} {ad : List Nat} {D : va_G} {cy : Nat → ClassId} (h : fx_env E D classes (tys cy) nestW) : fx_Met l yX12_layWithout (.code yX12_layWithout cX12_layWithout 3 none :: wsL_law) ({ frames := 1, cells := 0, slots := 0, locals := 21 }) E (gsM, TM, cy, fun _ => True) ad D classes km227_c :=
  fx_sound (x := km227_x) (tb := t_X12_layWithout) (an := km227_a) (sp := km227_s) (rk := 9) 32 h (fun _ _ _ _ _ _ => trivial) (fun _ _ _ _ _ _ => trivial) (ht_tys cy) (by decide) rfl ⟨fx_an, (fx_ac fl_X12_92 (fx_ac fl_X12_95 (fx_ac fl_X12_384 (fx_an)))), (fx_ac pl_X12_384 (fx_an)), fx_an, fx_an, (fx_ac (ev_S (km215 h) ⟨by decide, by decide⟩ iS_X12_has g_X12_474) (fx_ac (ev_S (km216 h) ⟨by decide, by decide⟩ iS_X12_has g_X12_474) (fx_ac (ev_S (km217 h) ⟨by decide, by decide⟩ iS_X12_has g_X12_474) (fx_ac (ev_S (km218 h) ⟨by decide, by decide⟩ iS_X12_has g_X12_474) (fx_ac (ev_S (km219 h) ⟨by decide, by decide⟩ iS_X12_has g_X12_474) (fx_ac (ev_S (km220 h) ⟨by decide, by decide⟩ iS_X12_has g_X12_474) (fx_ac (ev_S (km221 h) ⟨by decide, by decide⟩ iS_X12_has g_X12_474) (fx_ac (ev_S (km222 h) ⟨by decide, by decide⟩ iS_X12_has g_X12_474) (fx_ac (ev_S (km223 h) ⟨by decide, by decide⟩ iS_X12_has g_X12_474) (fx_ac (ev_S (km224 h) ⟨by decide, by decide⟩ iS_X12_has g_X12_474) (fx_ac (ev_S (km225 h) ⟨by decide, by decide⟩ iS_X12_has g_X12_474) (fx_ac (ev_S (km226 h) ⟨by decide, by decide⟩ iS_X12_has g_X12_474) (fx_an)))))))))))))⟩ d_X12_layWithout km227_k
-- X12_has i i ('c', 512) ('c', 0)
def km228_c : fx_C := ([.inl (512, 512), .inl (0, 0)], [], [(some (.inl (0, 0)), [.inl (512, 512), .inl (0, 0)], [])], [])
def km228_a : List fx_N := []
def km228_s : List fx_D := []
def km228_x : fx_X := ([], [], [], [], [], [])
set_option maxRecDepth 100000 in
theorem km228_k : fx_chk TM 2 km228_c 3 km228_x t_X12_has km228_a km228_s 11 = true := by decide +kernel
set_option maxRecDepth 100000 in
theorem km228 {l : Launch} {E : (Nat → Prop) → State → Prop} {ad : List Nat} {D : va_G} {cy : Nat → ClassId} (h : fx_env E D classes (tys cy) nestW) : fx_Met l yX12_has (.code yX12_has cX12_has 2 (some .boolean) :: wsL_law) ({ frames := 0, cells := 0, slots := 0, locals := 0 }) E (gsM, TM, cy, fun _ => True) ad D classes km228_c :=
  fx_sound (x := km228_x) (tb := t_X12_has) (an := km228_a) (sp := km228_s) (rk := 3) 11 h (fun _ _ _ _ _ _ => trivial) (fun _ _ _ _ _ _ => trivial) (ht_tys cy) (by decide) rfl ⟨fx_an, fx_an, fx_an, fx_an, fx_an, fx_an⟩ d_X12_has km228_k
-- X12_has i i ('c', 512) ('c', 1)
def km229_c : fx_C := ([.inl (512, 512), .inl (1, 1)], [], [(some (.inl (0, 0)), [.inl (512, 512), .inl (1, 1)], [])], [])
def km229_a : List fx_N := []
def km229_s : List fx_D := []
def km229_x : fx_X := ([], [], [], [], [], [])
set_option maxRecDepth 100000 in
theorem km229_k : fx_chk TM 2 km229_c 3 km229_x t_X12_has km229_a km229_s 11 = true := by decide +kernel
set_option maxRecDepth 100000 in
theorem km229 {l : Launch} {E : (Nat → Prop) → State → Prop} {ad : List Nat} {D : va_G} {cy : Nat → ClassId} (h : fx_env E D classes (tys cy) nestW) : fx_Met l yX12_has (.code yX12_has cX12_has 2 (some .boolean) :: wsL_law) ({ frames := 0, cells := 0, slots := 0, locals := 0 }) E (gsM, TM, cy, fun _ => True) ad D classes km229_c :=
  fx_sound (x := km229_x) (tb := t_X12_has) (an := km229_a) (sp := km229_s) (rk := 3) 11 h (fun _ _ _ _ _ _ => trivial) (fun _ _ _ _ _ _ => trivial) (ht_tys cy) (by decide) rfl ⟨fx_an, fx_an, fx_an, fx_an, fx_an, fx_an⟩ d_X12_has km229_k
-- X12_has i i ('c', 512) ('c', 2)
def km230_c : fx_C := ([.inl (512, 512), .inl (2, 2)], [], [(some (.inl (0, 0)), [.inl (512, 512), .inl (2, 2)], [])], [])
def km230_a : List fx_N := []
def km230_s : List fx_D := []
def km230_x : fx_X := ([], [], [], [], [], [])
set_option maxRecDepth 100000 in
theorem km230_k : fx_chk TM 2 km230_c 3 km230_x t_X12_has km230_a km230_s 11 = true := by decide +kernel
set_option maxRecDepth 100000 in
theorem km230 {l : Launch} {E : (Nat → Prop) → State → Prop} {ad : List Nat} {D : va_G} {cy : Nat → ClassId} (h : fx_env E D classes (tys cy) nestW) : fx_Met l yX12_has (.code yX12_has cX12_has 2 (some .boolean) :: wsL_law) ({ frames := 0, cells := 0, slots := 0, locals := 0 }) E (gsM, TM, cy, fun _ => True) ad D classes km230_c :=
  fx_sound (x := km230_x) (tb := t_X12_has) (an := km230_a) (sp := km230_s) (rk := 3) 11 h (fun _ _ _ _ _ _ => trivial) (fun _ _ _ _ _ _ => trivial) (ht_tys cy) (by decide) rfl ⟨fx_an, fx_an, fx_an, fx_an, fx_an, fx_an⟩ d_X12_has km230_k
-- X12_has i i ('c', 512) ('c', 3)
def km231_c : fx_C := ([.inl (512, 512), .inl (3, 3)], [], [(some (.inl (0, 0)), [.inl (512, 512), .inl (3, 3)], [])], [])
def km231_a : List fx_N := []
def km231_s : List fx_D := []
def km231_x : fx_X := ([], [], [], [], [], [])
set_option maxRecDepth 100000 in
theorem km231_k : fx_chk TM 2 km231_c 3 km231_x t_X12_has km231_a km231_s 11 = true := by decide +kernel
set_option maxRecDepth 100000 in
theorem km231 {l : Launch} {E : (Nat → Prop) → State → Prop} {ad : List Nat} {D : va_G} {cy : Nat → ClassId} (h : fx_env E D classes (tys cy) nestW) : fx_Met l yX12_has (.code yX12_has cX12_has 2 (some .boolean) :: wsL_law) ({ frames := 0, cells := 0, slots := 0, locals := 0 }) E (gsM, TM, cy, fun _ => True) ad D classes km231_c :=
  fx_sound (x := km231_x) (tb := t_X12_has) (an := km231_a) (sp := km231_s) (rk := 3) 11 h (fun _ _ _ _ _ _ => trivial) (fun _ _ _ _ _ _ => trivial) (ht_tys cy) (by decide) rfl ⟨fx_an, fx_an, fx_an, fx_an, fx_an, fx_an⟩ d_X12_has km231_k
-- X12_has i i ('c', 512) ('c', 4)
def km232_c : fx_C := ([.inl (512, 512), .inl (4, 4)], [], [(some (.inl (0, 0)), [.inl (512, 512), .inl (4, 4)], [])], [])
def km232_a : List fx_N := []
def km232_s : List fx_D := []
def km232_x : fx_X := ([], [], [], [], [], [])
set_option maxRecDepth 100000 in
theorem km232_k : fx_chk TM 2 km232_c 3 km232_x t_X12_has km232_a km232_s 11 = true := by decide +kernel
set_option maxRecDepth 100000 in
theorem km232 {l : Launch} {E : (Nat → Prop) → State → Prop} {ad : List Nat} {D : va_G} {cy : Nat → ClassId} (h : fx_env E D classes (tys cy) nestW) : fx_Met l yX12_has (.code yX12_has cX12_has 2 (some .boolean) :: wsL_law) ({ frames := 0, cells := 0, slots := 0, locals := 0 }) E (gsM, TM, cy, fun _ => True) ad D classes km232_c :=
  fx_sound (x := km232_x) (tb := t_X12_has) (an := km232_a) (sp := km232_s) (rk := 3) 11 h (fun _ _ _ _ _ _ => trivial) (fun _ _ _ _ _ _ => trivial) (ht_tys cy) (by decide) rfl ⟨fx_an, fx_an, fx_an, fx_an, fx_an, fx_an⟩ d_X12_has km232_k
-- X12_has i i ('c', 512) ('c', 5)
def km233_c : fx_C := ([.inl (512, 512), .inl (5, 5)], [], [(some (.inl (0, 0)), [.inl (512, 512), .inl (5, 5)], [])], [])
def km233_a : List fx_N := []
def km233_s : List fx_D := []
def km233_x : fx_X := ([], [], [], [], [], [])
set_option maxRecDepth 100000 in
theorem km233_k : fx_chk TM 2 km233_c 3 km233_x t_X12_has km233_a km233_s 11 = true := by decide +kernel
set_option maxRecDepth 100000 in
theorem km233 {l : Launch} {E : (Nat → Prop) → State → Prop} {ad : List Nat} {D : va_G} {cy : Nat → ClassId} (h : fx_env E D classes (tys cy) nestW) : fx_Met l yX12_has (.code yX12_has cX12_has 2 (some .boolean) :: wsL_law) ({ frames := 0, cells := 0, slots := 0, locals := 0 }) E (gsM, TM, cy, fun _ => True) ad D classes km233_c :=
  fx_sound (x := km233_x) (tb := t_X12_has) (an := km233_a) (sp := km233_s) (rk := 3) 11 h (fun _ _ _ _ _ _ => trivial) (fun _ _ _ _ _ _ => trivial) (ht_tys cy) (by decide) rfl ⟨fx_an, fx_an, fx_an, fx_an, fx_an, fx_an⟩ d_X12_has km233_k
-- X12_has i i ('c', 512) ('c', 6)
def km234_c : fx_C := ([.inl (512, 512), .inl (6, 6)], [], [(some (.inl (0, 0)), [.inl (512, 512), .inl (6, 6)], [])], [])
def km234_a : List fx_N := []
def km234_s : List fx_D := []
def km234_x : fx_X := ([], [], [], [], [], [])
set_option maxRecDepth 100000 in
theorem km234_k : fx_chk TM 2 km234_c 3 km234_x t_X12_has km234_a km234_s 11 = true := by decide +kernel
set_option maxRecDepth 100000 in
theorem km234 {l : Launch} {E : (Nat → Prop) → State → Prop} {ad : List Nat} {D : va_G} {cy : Nat → ClassId} (h : fx_env E D classes (tys cy) nestW) : fx_Met l yX12_has (.code yX12_has cX12_has 2 (some .boolean) :: wsL_law) ({ frames := 0, cells := 0, slots := 0, locals := 0 }) E (gsM, TM, cy, fun _ => True) ad D classes km234_c :=
  fx_sound (x := km234_x) (tb := t_X12_has) (an := km234_a) (sp := km234_s) (rk := 3) 11 h (fun _ _ _ _ _ _ => trivial) (fun _ _ _ _ _ _ => trivial) (ht_tys cy) (by decide) rfl ⟨fx_an, fx_an, fx_an, fx_an, fx_an, fx_an⟩ d_X12_has km234_k
-- X12_has i i ('c', 512) ('c', 7)
def km235_c : fx_C := ([.inl (512, 512), .inl (7, 7)], [], [(some (.inl (0, 0)), [.inl (512, 512), .inl (7, 7)], [])], [])
def km235_a : List fx_N := []
def km235_s : List fx_D := []
def km235_x : fx_X := ([], [], [], [], [], [])
set_option maxRecDepth 100000 in
theorem km235_k : fx_chk TM 2 km235_c 3 km235_x t_X12_has km235_a km235_s 11 = true := by decide +kernel
set_option maxRecDepth 100000 in
theorem km235 {l : Launch} {E : (Nat → Prop) → State → Prop} {ad : List Nat} {D : va_G} {cy : Nat → ClassId} (h : fx_env E D classes (tys cy) nestW) : fx_Met l yX12_has (.code yX12_has cX12_has 2 (some .boolean) :: wsL_law) ({ frames := 0, cells := 0, slots := 0, locals := 0 }) E (gsM, TM, cy, fun _ => True) ad D classes km235_c :=
  fx_sound (x := km235_x) (tb := t_X12_has) (an := km235_a) (sp := km235_s) (rk := 3) 11 h (fun _ _ _ _ _ _ => trivial) (fun _ _ _ _ _ _ => trivial) (ht_tys cy) (by decide) rfl ⟨fx_an, fx_an, fx_an, fx_an, fx_an, fx_an⟩ d_X12_has km235_k
-- X12_has i i ('c', 512) ('c', 8)
def km236_c : fx_C := ([.inl (512, 512), .inl (8, 8)], [], [(some (.inl (0, 0)), [.inl (512, 512), .inl (8, 8)], [])], [])
def km236_a : List fx_N := []
def km236_s : List fx_D := []
def km236_x : fx_X := ([], [], [], [], [], [])
set_option maxRecDepth 100000 in
theorem km236_k : fx_chk TM 2 km236_c 3 km236_x t_X12_has km236_a km236_s 11 = true := by decide +kernel
set_option maxRecDepth 100000 in
theorem km236 {l : Launch} {E : (Nat → Prop) → State → Prop} {ad : List Nat} {D : va_G} {cy : Nat → ClassId} (h : fx_env E D classes (tys cy) nestW) : fx_Met l yX12_has (.code yX12_has cX12_has 2 (some .boolean) :: wsL_law) ({ frames := 0, cells := 0, slots := 0, locals := 0 }) E (gsM, TM, cy, fun _ => True) ad D classes km236_c :=
  fx_sound (x := km236_x) (tb := t_X12_has) (an := km236_a) (sp := km236_s) (rk := 3) 11 h (fun _ _ _ _ _ _ => trivial) (fun _ _ _ _ _ _ => trivial) (ht_tys cy) (by decide) rfl ⟨fx_an, fx_an, fx_an, fx_an, fx_an, fx_an⟩ d_X12_has km236_k
-- X12_has i i ('c', 512) ('c', 9)
def km237_c : fx_C := ([.inl (512, 512), .inl (9, 9)], [], [(some (.inl (1, 1)), [.inl (512, 512), .inl (9, 9)], [])], [])
def km237_a : List fx_N := []
def km237_s : List fx_D := []
def km237_x : fx_X := ([], [], [], [], [], [])
set_option maxRecDepth 100000 in
theorem km237_k : fx_chk TM 2 km237_c 3 km237_x t_X12_has km237_a km237_s 12 = true := by decide +kernel
set_option maxRecDepth 100000 in
theorem km237 {l : Launch} {E : (Nat → Prop) → State → Prop} {ad : List Nat} {D : va_G} {cy : Nat → ClassId} (h : fx_env E D classes (tys cy) nestW) : fx_Met l yX12_has (.code yX12_has cX12_has 2 (some .boolean) :: wsL_law) ({ frames := 0, cells := 0, slots := 0, locals := 0 }) E (gsM, TM, cy, fun _ => True) ad D classes km237_c :=
  fx_sound (x := km237_x) (tb := t_X12_has) (an := km237_a) (sp := km237_s) (rk := 3) 12 h (fun _ _ _ _ _ _ => trivial) (fun _ _ _ _ _ _ => trivial) (ht_tys cy) (by decide) rfl ⟨fx_an, fx_an, fx_an, fx_an, fx_an, fx_an⟩ d_X12_has km237_k
-- X12_has i i ('c', 512) ('c', 10)
def km238_c : fx_C := ([.inl (512, 512), .inl (10, 10)], [], [(some (.inl (0, 0)), [.inl (512, 512), .inl (10, 10)], [])], [])
def km238_a : List fx_N := []
def km238_s : List fx_D := []
def km238_x : fx_X := ([], [], [], [], [], [])
set_option maxRecDepth 100000 in
theorem km238_k : fx_chk TM 2 km238_c 3 km238_x t_X12_has km238_a km238_s 11 = true := by decide +kernel
set_option maxRecDepth 100000 in
theorem km238 {l : Launch} {E : (Nat → Prop) → State → Prop} {ad : List Nat} {D : va_G} {cy : Nat → ClassId} (h : fx_env E D classes (tys cy) nestW) : fx_Met l yX12_has (.code yX12_has cX12_has 2 (some .boolean) :: wsL_law) ({ frames := 0, cells := 0, slots := 0, locals := 0 }) E (gsM, TM, cy, fun _ => True) ad D classes km238_c :=
  fx_sound (x := km238_x) (tb := t_X12_has) (an := km238_a) (sp := km238_s) (rk := 3) 11 h (fun _ _ _ _ _ _ => trivial) (fun _ _ _ _ _ _ => trivial) (ht_tys cy) (by decide) rfl ⟨fx_an, fx_an, fx_an, fx_an, fx_an, fx_an⟩ d_X12_has km238_k
-- X12_has i i ('c', 512) ('c', 11)
def km239_c : fx_C := ([.inl (512, 512), .inl (11, 11)], [], [(some (.inl (0, 0)), [.inl (512, 512), .inl (11, 11)], [])], [])
def km239_a : List fx_N := []
def km239_s : List fx_D := []
def km239_x : fx_X := ([], [], [], [], [], [])
set_option maxRecDepth 100000 in
theorem km239_k : fx_chk TM 2 km239_c 3 km239_x t_X12_has km239_a km239_s 11 = true := by decide +kernel
set_option maxRecDepth 100000 in
theorem km239 {l : Launch} {E : (Nat → Prop) → State → Prop} {ad : List Nat} {D : va_G} {cy : Nat → ClassId} (h : fx_env E D classes (tys cy) nestW) : fx_Met l yX12_has (.code yX12_has cX12_has 2 (some .boolean) :: wsL_law) ({ frames := 0, cells := 0, slots := 0, locals := 0 }) E (gsM, TM, cy, fun _ => True) ad D classes km239_c :=
  fx_sound (x := km239_x) (tb := t_X12_has) (an := km239_a) (sp := km239_s) (rk := 3) 11 h (fun _ _ _ _ _ _ => trivial) (fun _ _ _ _ _ _ => trivial) (ht_tys cy) (by decide) rfl ⟨fx_an, fx_an, fx_an, fx_an, fx_an, fx_an⟩ d_X12_has km239_k
