-- X12_has i i ('c', 8) ('c', 4)
def km154_c : fx_C := ([.inl (8, 8), .inl (4, 4)], [], [(some (.inl (0, 0)), [.inl (8, 8), .inl (4, 4)], [])], [])
def km154_a : List fx_N := []
def km154_s : List fx_D := []
def km154_x : fx_X := ([], [], [], [], [], [])
set_option maxRecDepth 100000 in
theorem km154_k : fx_chk TM 2 km154_c 3 km154_x t_X12_has km154_a km154_s 11 = true := by decide +kernel
set_option maxRecDepth 100000 in
theorem km154 {l : Launch} {E : (Nat → Prop) → State → Prop} {ad : List Nat} {D : va_G} {cy : Nat → ClassId} (h : fx_env E D classes (tys cy) nestW) : fx_Met l yX12_has (.code yX12_has cX12_has 2 (some .boolean) :: wsL_law) ({ frames := 0, cells := 0, slots := 0, locals := 0 }) E (gsM, TM, cy, fun _ => True) ad D classes km154_c :=
  fx_sound (x := km154_x) (tb := t_X12_has) (an := km154_a) (sp := km154_s) (rk := 3) 11 h (fun _ _ _ _ _ _ => trivial) (fun _ _ _ _ _ _ => trivial) (ht_tys cy) (by decide) rfl ⟨fx_an, fx_an, fx_an, fx_an, fx_an, fx_an⟩ d_X12_has km154_k
-- X12_has i i ('c', 8) ('c', 5)
def km155_c : fx_C := ([.inl (8, 8), .inl (5, 5)], [], [(some (.inl (0, 0)), [.inl (8, 8), .inl (5, 5)], [])], [])
def km155_a : List fx_N := []
def km155_s : List fx_D := []
def km155_x : fx_X := ([], [], [], [], [], [])
set_option maxRecDepth 100000 in
theorem km155_k : fx_chk TM 2 km155_c 3 km155_x t_X12_has km155_a km155_s 11 = true := by decide +kernel
set_option maxRecDepth 100000 in
theorem km155 {l : Launch} {E : (Nat → Prop) → State → Prop} {ad : List Nat} {D : va_G} {cy : Nat → ClassId} (h : fx_env E D classes (tys cy) nestW) : fx_Met l yX12_has (.code yX12_has cX12_has 2 (some .boolean) :: wsL_law) ({ frames := 0, cells := 0, slots := 0, locals := 0 }) E (gsM, TM, cy, fun _ => True) ad D classes km155_c :=
  fx_sound (x := km155_x) (tb := t_X12_has) (an := km155_a) (sp := km155_s) (rk := 3) 11 h (fun _ _ _ _ _ _ => trivial) (fun _ _ _ _ _ _ => trivial) (ht_tys cy) (by decide) rfl ⟨fx_an, fx_an, fx_an, fx_an, fx_an, fx_an⟩ d_X12_has km155_k
-- X12_has i i ('c', 8) ('c', 6)
def km156_c : fx_C := ([.inl (8, 8), .inl (6, 6)], [], [(some (.inl (0, 0)), [.inl (8, 8), .inl (6, 6)], [])], [])
def km156_a : List fx_N := []
def km156_s : List fx_D := []
def km156_x : fx_X := ([], [], [], [], [], [])
set_option maxRecDepth 100000 in
theorem km156_k : fx_chk TM 2 km156_c 3 km156_x t_X12_has km156_a km156_s 11 = true := by decide +kernel
set_option maxRecDepth 100000 in
theorem km156 {l : Launch} {E : (Nat → Prop) → State → Prop} {ad : List Nat} {D : va_G} {cy : Nat → ClassId} (h : fx_env E D classes (tys cy) nestW) : fx_Met l yX12_has (.code yX12_has cX12_has 2 (some .boolean) :: wsL_law) ({ frames := 0, cells := 0, slots := 0, locals := 0 }) E (gsM, TM, cy, fun _ => True) ad D classes km156_c :=
  fx_sound (x := km156_x) (tb := t_X12_has) (an := km156_a) (sp := km156_s) (rk := 3) 11 h (fun _ _ _ _ _ _ => trivial) (fun _ _ _ _ _ _ => trivial) (ht_tys cy) (by decide) rfl ⟨fx_an, fx_an, fx_an, fx_an, fx_an, fx_an⟩ d_X12_has km156_k
-- X12_has i i ('c', 8) ('c', 7)
def km157_c : fx_C := ([.inl (8, 8), .inl (7, 7)], [], [(some (.inl (0, 0)), [.inl (8, 8), .inl (7, 7)], [])], [])
def km157_a : List fx_N := []
def km157_s : List fx_D := []
def km157_x : fx_X := ([], [], [], [], [], [])
set_option maxRecDepth 100000 in
theorem km157_k : fx_chk TM 2 km157_c 3 km157_x t_X12_has km157_a km157_s 11 = true := by decide +kernel
set_option maxRecDepth 100000 in
theorem km157 {l : Launch} {E : (Nat → Prop) → State → Prop} {ad : List Nat} {D : va_G} {cy : Nat → ClassId} (h : fx_env E D classes (tys cy) nestW) : fx_Met l yX12_has (.code yX12_has cX12_has 2 (some .boolean) :: wsL_law) ({ frames := 0, cells := 0, slots := 0, locals := 0 }) E (gsM, TM, cy, fun _ => True) ad D classes km157_c :=
  fx_sound (x := km157_x) (tb := t_X12_has) (an := km157_a) (sp := km157_s) (rk := 3) 11 h (fun _ _ _ _ _ _ => trivial) (fun _ _ _ _ _ _ => trivial) (ht_tys cy) (by decide) rfl ⟨fx_an, fx_an, fx_an, fx_an, fx_an, fx_an⟩ d_X12_has km157_k
-- X12_has i i ('c', 8) ('c', 8)
def km158_c : fx_C := ([.inl (8, 8), .inl (8, 8)], [], [(some (.inl (0, 0)), [.inl (8, 8), .inl (8, 8)], [])], [])
def km158_a : List fx_N := []
def km158_s : List fx_D := []
def km158_x : fx_X := ([], [], [], [], [], [])
set_option maxRecDepth 100000 in
theorem km158_k : fx_chk TM 2 km158_c 3 km158_x t_X12_has km158_a km158_s 11 = true := by decide +kernel
set_option maxRecDepth 100000 in
theorem km158 {l : Launch} {E : (Nat → Prop) → State → Prop} {ad : List Nat} {D : va_G} {cy : Nat → ClassId} (h : fx_env E D classes (tys cy) nestW) : fx_Met l yX12_has (.code yX12_has cX12_has 2 (some .boolean) :: wsL_law) ({ frames := 0, cells := 0, slots := 0, locals := 0 }) E (gsM, TM, cy, fun _ => True) ad D classes km158_c :=
  fx_sound (x := km158_x) (tb := t_X12_has) (an := km158_a) (sp := km158_s) (rk := 3) 11 h (fun _ _ _ _ _ _ => trivial) (fun _ _ _ _ _ _ => trivial) (ht_tys cy) (by decide) rfl ⟨fx_an, fx_an, fx_an, fx_an, fx_an, fx_an⟩ d_X12_has km158_k
-- X12_has i i ('c', 8) ('c', 9)
def km159_c : fx_C := ([.inl (8, 8), .inl (9, 9)], [], [(some (.inl (0, 0)), [.inl (8, 8), .inl (9, 9)], [])], [])
def km159_a : List fx_N := []
def km159_s : List fx_D := []
def km159_x : fx_X := ([], [], [], [], [], [])
set_option maxRecDepth 100000 in
theorem km159_k : fx_chk TM 2 km159_c 3 km159_x t_X12_has km159_a km159_s 11 = true := by decide +kernel
set_option maxRecDepth 100000 in
theorem km159 {l : Launch} {E : (Nat → Prop) → State → Prop} {ad : List Nat} {D : va_G} {cy : Nat → ClassId} (h : fx_env E D classes (tys cy) nestW) : fx_Met l yX12_has (.code yX12_has cX12_has 2 (some .boolean) :: wsL_law) ({ frames := 0, cells := 0, slots := 0, locals := 0 }) E (gsM, TM, cy, fun _ => True) ad D classes km159_c :=
  fx_sound (x := km159_x) (tb := t_X12_has) (an := km159_a) (sp := km159_s) (rk := 3) 11 h (fun _ _ _ _ _ _ => trivial) (fun _ _ _ _ _ _ => trivial) (ht_tys cy) (by decide) rfl ⟨fx_an, fx_an, fx_an, fx_an, fx_an, fx_an⟩ d_X12_has km159_k
-- X12_has i i ('c', 8) ('c', 10)
def km160_c : fx_C := ([.inl (8, 8), .inl (10, 10)], [], [(some (.inl (0, 0)), [.inl (8, 8), .inl (10, 10)], [])], [])
def km160_a : List fx_N := []
def km160_s : List fx_D := []
def km160_x : fx_X := ([], [], [], [], [], [])
set_option maxRecDepth 100000 in
theorem km160_k : fx_chk TM 2 km160_c 3 km160_x t_X12_has km160_a km160_s 11 = true := by decide +kernel
set_option maxRecDepth 100000 in
theorem km160 {l : Launch} {E : (Nat → Prop) → State → Prop} {ad : List Nat} {D : va_G} {cy : Nat → ClassId} (h : fx_env E D classes (tys cy) nestW) : fx_Met l yX12_has (.code yX12_has cX12_has 2 (some .boolean) :: wsL_law) ({ frames := 0, cells := 0, slots := 0, locals := 0 }) E (gsM, TM, cy, fun _ => True) ad D classes km160_c :=
  fx_sound (x := km160_x) (tb := t_X12_has) (an := km160_a) (sp := km160_s) (rk := 3) 11 h (fun _ _ _ _ _ _ => trivial) (fun _ _ _ _ _ _ => trivial) (ht_tys cy) (by decide) rfl ⟨fx_an, fx_an, fx_an, fx_an, fx_an, fx_an⟩ d_X12_has km160_k
-- X12_has i i ('c', 8) ('c', 11)
def km161_c : fx_C := ([.inl (8, 8), .inl (11, 11)], [], [(some (.inl (0, 0)), [.inl (8, 8), .inl (11, 11)], [])], [])
def km161_a : List fx_N := []
def km161_s : List fx_D := []
def km161_x : fx_X := ([], [], [], [], [], [])
set_option maxRecDepth 100000 in
theorem km161_k : fx_chk TM 2 km161_c 3 km161_x t_X12_has km161_a km161_s 11 = true := by decide +kernel
set_option maxRecDepth 100000 in
theorem km161 {l : Launch} {E : (Nat → Prop) → State → Prop} {ad : List Nat} {D : va_G} {cy : Nat → ClassId} (h : fx_env E D classes (tys cy) nestW) : fx_Met l yX12_has (.code yX12_has cX12_has 2 (some .boolean) :: wsL_law) ({ frames := 0, cells := 0, slots := 0, locals := 0 }) E (gsM, TM, cy, fun _ => True) ad D classes km161_c :=
  fx_sound (x := km161_x) (tb := t_X12_has) (an := km161_a) (sp := km161_s) (rk := 3) 11 h (fun _ _ _ _ _ _ => trivial) (fun _ _ _ _ _ _ => trivial) (ht_tys cy) (by decide) rfl ⟨fx_an, fx_an, fx_an, fx_an, fx_an, fx_an⟩ d_X12_has km161_k
-- X12_layWithout 0 i ('c', 8)
def km162_c : fx_C := ([.inr (.inr 1), .inl (8, 8)], [], [(none, [.inr (.inr 1), .inl (8, 8)], [((0, 45), .inl (0, 11))])], [(12, 45), (1000, 27)])
def km162_a : List fx_N := [(7, [(2, .inl (0, 0)), (0, .inr (.inr 1)), (1, .inl (8, 8))], [((1, 45), .inl (0, 0))], [(0, 12)], [(0, 1), (1, 2)]), (7, [(2, .inl (1, 1)), (0, .inr (.inr 1)), (1, .inl (8, 8))], [((1, 45), .inl (1, 1)), ((1, 41), .inr (.inr 27)), ((4, 12), .inl (1, 12))], [(0, 11)], [(0, 1), (1, 2)]), (7, [(2, .inl (2, 2)), (0, .inr (.inr 1)), (1, .inl (8, 8))], [((1, 45), .inl (2, 2)), ((1, 41), .inr (.inr 27)), ((4, 12), .inl (2, 12))], [(0, 10)], [(0, 1), (1, 2)]), (7, [(2, .inl (3, 3)), (0, .inr (.inr 1)), (1, .inl (8, 8))], [((1, 45), .inl (3, 3)), ((1, 41), .inr (.inr 27)), ((4, 12), .inl (3, 12))], [(0, 9)], [(0, 1), (1, 2)]), (7, [(2, .inl (4, 4)), (0, .inr (.inr 1)), (1, .inl (8, 8))], [((1, 45), .inl (3, 3)), ((1, 41), .inr (.inr 27)), ((4, 12), .inl (4, 12))], [(0, 8)], [(0, 1), (1, 2)]), (7, [(2, .inl (5, 5)), (0, .inr (.inr 1)), (1, .inl (8, 8))], [((1, 45), .inl (4, 4)), ((1, 41), .inr (.inr 27)), ((4, 12), .inl (5, 12))], [(0, 7)], [(0, 1), (1, 2)]), (7, [(2, .inl (6, 6)), (0, .inr (.inr 1)), (1, .inl (8, 8))], [((1, 45), .inl (5, 5)), ((1, 41), .inr (.inr 27)), ((4, 12), .inl (6, 12))], [(0, 6)], [(0, 1), (1, 2)]), (7, [(2, .inl (7, 7)), (0, .inr (.inr 1)), (1, .inl (8, 8))], [((1, 45), .inl (6, 6)), ((1, 41), .inr (.inr 27)), ((4, 12), .inl (7, 12))], [(0, 5)], [(0, 1), (1, 2)]), (7, [(2, .inl (8, 8)), (0, .inr (.inr 1)), (1, .inl (8, 8))], [((1, 45), .inl (7, 7)), ((1, 41), .inr (.inr 27)), ((4, 12), .inl (8, 12))], [(0, 4)], [(0, 1), (1, 2)]), (7, [(2, .inl (9, 9)), (0, .inr (.inr 1)), (1, .inl (8, 8))], [((1, 45), .inl (8, 8)), ((1, 41), .inr (.inr 27)), ((4, 12), .inl (9, 12))], [(0, 3)], [(0, 1), (1, 2)]), (7, [(2, .inl (10, 10)), (0, .inr (.inr 1)), (1, .inl (8, 8))], [((1, 45), .inl (9, 9)), ((1, 41), .inr (.inr 27)), ((4, 12), .inl (10, 12))], [(0, 2)], [(0, 1), (1, 2)]), (7, [(2, .inl (11, 11)), (0, .inr (.inr 1)), (1, .inl (8, 8))], [((1, 45), .inl (10, 10)), ((1, 41), .inr (.inr 27)), ((4, 12), .inl (11, 12))], [(0, 1)], [(0, 1), (1, 2)]), (7, [(2, .inl (12, 12)), (0, .inr (.inr 1)), (1, .inl (8, 8))], [((1, 45), .inl (11, 11)), ((1, 41), .inr (.inr 27)), ((4, 12), .inl (12, 12))], [(0, 0)], [(0, 1), (1, 2)])]
def km162_s : List fx_D := []
def km162_x : fx_X := ([], [(92, 12, 41), (95, 12, 42), (384, 12, 45)], [(384, 12, 45, 0)], [], [], [(20, 474, 1000, km150_c), (20, 474, 1000, km151_c), (20, 474, 1000, km152_c), (20, 474, 1000, km153_c), (20, 474, 1000, km154_c), (20, 474, 1000, km155_c), (20, 474, 1000, km156_c), (20, 474, 1000, km157_c), (20, 474, 1000, km158_c), (20, 474, 1000, km159_c), (20, 474, 1000, km160_c), (20, 474, 1000, km161_c)])
set_option maxRecDepth 100000 in
theorem km162_k : fx_chk TM 3 km162_c 9 km162_x t_X12_layWithout km162_a km162_s 32 = true := by decide +kernel
set_option maxRecDepth 100000 in
theorem km162 {l : Launch} {E : (Nat → Prop) → State → Prop} {ad : List Nat} {D : va_G} {cy : Nat → ClassId} (h : fx_env E D classes (tys cy) nestW) : fx_Met l yX12_layWithout (.code yX12_layWithout cX12_layWithout 3 none :: wsL_law) ({ frames := 1, cells := 0, slots := 0, locals := 21 }) E (gsM, TM, cy, fun _ => True) ad D classes km162_c :=
  fx_sound (x := km162_x) (tb := t_X12_layWithout) (an := km162_a) (sp := km162_s) (rk := 9) 32 h (fun _ _ _ _ _ _ => trivial) (fun _ _ _ _ _ _ => trivial) (ht_tys cy) (by decide) rfl ⟨fx_an, (fx_ac fl_X12_92 (fx_ac fl_X12_95 (fx_ac fl_X12_384 (fx_an)))), (fx_ac pl_X12_384 (fx_an)), fx_an, fx_an, (fx_ac (ev_S (km150 h) ⟨by decide, by decide⟩ iS_X12_has g_X12_474) (fx_ac (ev_S (km151 h) ⟨by decide, by decide⟩ iS_X12_has g_X12_474) (fx_ac (ev_S (km152 h) ⟨by decide, by decide⟩ iS_X12_has g_X12_474) (fx_ac (ev_S (km153 h) ⟨by decide, by decide⟩ iS_X12_has g_X12_474) (fx_ac (ev_S (km154 h) ⟨by decide, by decide⟩ iS_X12_has g_X12_474) (fx_ac (ev_S (km155 h) ⟨by decide, by decide⟩ iS_X12_has g_X12_474) (fx_ac (ev_S (km156 h) ⟨by decide, by decide⟩ iS_X12_has g_X12_474) (fx_ac (ev_S (km157 h) ⟨by decide, by decide⟩ iS_X12_has g_X12_474) (fx_ac (ev_S (km158 h) ⟨by decide, by decide⟩ iS_X12_has g_X12_474) (fx_ac (ev_S (km159 h) ⟨by decide, by decide⟩ iS_X12_has g_X12_474) (fx_ac (ev_S (km160 h) ⟨by decide, by decide⟩ iS_X12_has g_X12_474) (fx_ac (ev_S (km161 h) ⟨by decide, by decide⟩ iS_X12_has g_X12_474) (fx_an)))))))))))))⟩ d_X12_layWithout km162_k
-- X12_has i i ('c', 16) ('c', 0)
def km163_c : fx_C := ([.inl (16, 16), .inl (0, 0)], [], [(some (.inl (0, 0)), [.inl (16, 16), .inl (0, 0)], [])], [])
def km163_a : List fx_N := []
def km163_s : List fx_D := []
def km163_x : fx_X := ([], [], [], [], [], [])
set_option maxRecDepth 100000 in
theorem km163_k : fx_chk TM 2 km163_c 3 km163_x t_X12_has km163_a km163_s 11 = true := by decide +kernel
set_option maxRecDepth 100000 in
theorem km163 {l : Launch} {E : (Nat → Prop) → State → Prop} {ad : List Nat} {D : va_G} {cy : Nat → ClassId} (h : fx_env E D classes (tys cy) nestW) : fx_Met l yX12_has (.code yX12_has cX12_has 2 (some .boolean) :: wsL_law) ({ frames := 0, cells := 0, slots := 0, locals := 0 }) E (gsM, TM, cy, fun _ => True) ad D classes km163_c :=
  fx_sound (x := km163_x) (tb := t_X12_has) (an := km163_a) (sp := km163_s) (rk := 3) 11 h (fun _ _ _ _ _ _ => trivial) (fun _ _ _ _ _ _ => trivial) (ht_tys cy) (by decide) rfl ⟨fx_an, fx_an, fx_an, fx_an, fx_an, fx_an⟩ d_X12_has km163_k
-- X12_has i i ('c', 16) ('c', 1)
def km164_c : fx_C := ([.inl (16, 16), .inl (1, 1)], [], [(some (.inl (0, 0)), [.inl (16, 16), .inl (1, 1)], [])], [])
def km164_a : List fx_N := []
def km164_s : List fx_D := []
def km164_x : fx_X := ([], [], [], [], [], [])
set_option maxRecDepth 100000 in
theorem km164_k : fx_chk TM 2 km164_c 3 km164_x t_X12_has km164_a km164_s 11 = true := by decide +kernel
set_option maxRecDepth 100000 in
theorem km164 {l : Launch} {E : (Nat → Prop) → State → Prop} {ad : List Nat} {D : va_G} {cy : Nat → ClassId} (h : fx_env E D classes (tys cy) nestW) : fx_Met l yX12_has (.code yX12_has cX12_has 2 (some .boolean) :: wsL_law) ({ frames := 0, cells := 0, slots := 0, locals := 0 }) E (gsM, TM, cy, fun _ => True) ad D classes km164_c :=
  fx_sound (x := km164_x) (tb := t_X12_has) (an := km164_a) (sp := km164_s) (rk := 3) 11 h (fun _ _ _ _ _ _ => trivial) (fun _ _ _ _ _ _ => trivial) (ht_tys cy) (by decide) rfl ⟨fx_an, fx_an, fx_an, fx_an, fx_an, fx_an⟩ d_X12_has km164_k
-- X12_has i i ('c', 16) ('c', 2)
def km165_c : fx_C := ([.inl (16, 16), .inl (2, 2)], [], [(some (.inl (0, 0)), [.inl (16, 16), .inl (2, 2)], [])], [])
def km165_a : List fx_N := []
def km165_s : List fx_D := []
def km165_x : fx_X := ([], [], [], [], [], [])
set_option maxRecDepth 100000 in
theorem km165_k : fx_chk TM 2 km165_c 3 km165_x t_X12_has km165_a km165_s 11 = true := by decide +kernel
set_option maxRecDepth 100000 in
theorem km165 {l : Launch} {E : (Nat → Prop) → State → Prop} {ad : List Nat} {D : va_G} {cy : Nat → ClassId} (h : fx_env E D classes (tys cy) nestW) : fx_Met l yX12_has (.code yX12_has cX12_has 2 (some .boolean) :: wsL_law) ({ frames := 0, cells := 0, slots := 0, locals := 0 }) E (gsM, TM, cy, fun _ => True) ad D classes km165_c :=
  fx_sound (x := km165_x) (tb := t_X12_has) (an := km165_a) (sp := km165_s) (rk := 3) 11 h (fun _ _ _ _ _ _ => trivial) (fun _ _ _ _ _ _ => trivial) (ht_tys cy) (by decide) rfl ⟨fx_an, fx_an, fx_an, fx_an, fx_an, fx_an⟩ d_X12_has km165_k
-- X12_has i i ('c', 16) ('c', 3)
def km166_c : fx_C := ([.inl (16, 16), .inl (3, 3)], [], [(some (.inl (0, 0)), [.inl (16, 16), .inl (3, 3)], [])], [])
def km166_a : List fx_N := []
def km166_s : List fx_D := []
def km166_x : fx_X := ([], [], [], [], [], [])
set_option maxRecDepth 100000 in
theorem km166_k : fx_chk TM 2 km166_c 3 km166_x t_X12_has km166_a km166_s 11 = true := by decide +kernel
set_option maxRecDepth 100000 in
theorem km166 {l : Launch} {E : (Nat → Prop) → State → Prop} {ad : List Nat} {D : va_G} {cy : Nat → ClassId} (h : fx_env E D classes (tys cy) nestW) : fx_Met l yX12_has (.code yX12_has cX12_has 2 (some .boolean) :: wsL_law) ({ frames := 0, cells := 0, slots := 0, locals := 0 }) E (gsM, TM, cy, fun _ => True) ad D classes km166_c :=
  fx_sound (x := km166_x) (tb := t_X12_has) (an := km166_a) (sp := km166_s) (rk := 3) 11 h (fun _ _ _ _ _ _ => trivial) (fun _ _ _ _ _ _ => trivial) (ht_tys cy) (by decide) rfl ⟨fx_an, fx_an, fx_an, fx_an, fx_an, fx_an⟩ d_X12_has km166_k
-- X12_has i i ('c', 16) ('c', 4)
def km167_c : fx_C := ([.inl (16, 16), .inl (4, 4)], [], [(some (.inl (1, 1)), [.inl (16, 16), .inl (4, 4)], [])], [])
def km167_a : List fx_N := []
def km167_s : List fx_D := []
def km167_x : fx_X := ([], [], [], [], [], [])
set_option maxRecDepth 100000 in
theorem km167_k : fx_chk TM 2 km167_c 3 km167_x t_X12_has km167_a km167_s 12 = true := by decide +kernel
set_option maxRecDepth 100000 in
theorem km167 {l : Launch} {E : (Nat → Prop) → State → Prop} {ad : List Nat} {D : va_G} {cy : Nat → ClassId} (h : fx_env E D classes (tys cy) nestW) : fx_Met l yX12_has (.code yX12_has cX12_has 2 (some .boolean) :: wsL_law) ({ frames := 0, cells := 0, slots := 0, locals := 0 }) E (gsM, TM, cy, fun _ => True) ad D classes km167_c :=
  fx_sound (x := km167_x) (tb := t_X12_has) (an := km167_a) (sp := km167_s) (rk := 3) 12 h (fun _ _ _ _ _ _ => trivial) (fun _ _ _ _ _ _ => trivial) (ht_tys cy) (by decide) rfl ⟨fx_an, fx_an, fx_an, fx_an, fx_an, fx_an⟩ d_X12_has km167_k
-- X12_has i i ('c', 16) ('c', 5)
def km168_c : fx_C := ([.inl (16, 16), .inl (5, 5)], [], [(some (.inl (0, 0)), [.inl (16, 16), .inl (5, 5)], [])], [])
def km168_a : List fx_N := []
def km168_s : List fx_D := []
def km168_x : fx_X := ([], [], [], [], [], [])
set_option maxRecDepth 100000 in
theorem km168_k : fx_chk TM 2 km168_c 3 km168_x t_X12_has km168_a km168_s 11 = true := by decide +kernel
set_option maxRecDepth 100000 in
theorem km168 {l : Launch} {E : (Nat → Prop) → State → Prop} {ad : List Nat} {D : va_G} {cy : Nat → ClassId} (h : fx_env E D classes (tys cy) nestW) : fx_Met l yX12_has (.code yX12_has cX12_has 2 (some .boolean) :: wsL_law) ({ frames := 0, cells := 0, slots := 0, locals := 0 }) E (gsM, TM, cy, fun _ => True) ad D classes km168_c :=
  fx_sound (x := km168_x) (tb := t_X12_has) (an := km168_a) (sp := km168_s) (rk := 3) 11 h (fun _ _ _ _ _ _ => trivial) (fun _ _ _ _ _ _ => trivial) (ht_tys cy) (by decide) rfl ⟨fx_an, fx_an, fx_an, fx_an, fx_an, fx_an⟩ d_X12_has km168_k
-- X12_has i i ('c', 16) ('c', 6)
def km169_c : fx_C := ([.inl (16, 16), .inl (6, 6)], [], [(some (.inl (0, 0)), [.inl (16, 16), .inl (6, 6)], [])], [])
def km169_a : List fx_N := []
def km169_s : List fx_D := []
def km169_x : fx_X := ([], [], [], [], [], [])
set_option maxRecDepth 100000 in
theorem km169_k : fx_chk TM 2 km169_c 3 km169_x t_X12_has km169_a km169_s 11 = true := by decide +kernel
set_option maxRecDepth 100000 in
theorem km169 {l : Launch} {E : (Nat → Prop) → State → Prop} {ad : List Nat} {D : va_G} {cy : Nat → ClassId} (h : fx_env E D classes (tys cy) nestW) : fx_Met l yX12_has (.code yX12_has cX12_has 2 (some .boolean) :: wsL_law) ({ frames := 0, cells := 0, slots := 0, locals := 0 }) E (gsM, TM, cy, fun _ => True) ad D classes km169_c :=
  fx_sound (x := km169_x) (tb := t_X12_has) (an := km169_a) (sp := km169_s) (rk := 3) 11 h (fun _ _ _ _ _ _ => trivial) (fun _ _ _ _ _ _ => trivial) (ht_tys cy) (by decide) rfl ⟨fx_an, fx_an, fx_an, fx_an, fx_an, fx_an⟩ d_X12_has km169_k
-- X12_has i i ('c', 16) ('c', 7)
def km170_c : fx_C := ([.inl (16, 16), .inl (7, 7)], [], [(some (.inl (0, 0)), [.inl (16, 16), .inl (7, 7)], [])], [])
def km170_a : List fx_N := []
def km170_s : List fx_D := []
def km170_x : fx_X := ([], [], [], [], [], [])
set_option maxRecDepth 100000 in
theorem km170_k : fx_chk TM 2 km170_c 3 km170_x t_X12_has km170_a km170_s 11 = true := by decide +kernel
set_option maxRecDepth 100000 in
theorem km170 {l : Launch} {E : (Nat → Prop) → State → Prop} {ad : List Nat} {D : va_G} {cy : Nat → ClassId} (h : fx_env E D classes (tys cy) nestW) : fx_Met l yX12_has (.code yX12_has cX12_has 2 (some .boolean) :: wsL_law) ({ frames := 0, cells := 0, slots := 0, locals := 0 }) E (gsM, TM, cy, fun _ => True) ad D classes km170_c :=
  fx_sound (x := km170_x) (tb := t_X12_has) (an := km170_a) (sp := km170_s) (rk := 3) 11 h (fun _ _ _ _ _ _ => trivial) (fun _ _ _ _ _ _ => trivial) (ht_tys cy) (by decide) rfl ⟨fx_an, fx_an, fx_an, fx_an, fx_an, fx_an⟩ d_X12_has km170_k
-- X12_has i i ('c', 16) ('c', 8)
def km171_c : fx_C := ([.inl (16, 16), .inl (8, 8)], [], [(some (.inl (0, 0)), [.inl (16, 16), .inl (8, 8)], [])], [])
def km171_a : List fx_N := []
def km171_s : List fx_D := []
def km171_x : fx_X := ([], [], [], [], [], [])
set_option maxRecDepth 100000 in
theorem km171_k : fx_chk TM 2 km171_c 3 km171_x t_X12_has km171_a km171_s 11 = true := by decide +kernel
set_option maxRecDepth 100000 in
theorem km171 {l : Launch} {E : (Nat → Prop) → State → Prop} {ad : List Nat} {D : va_G} {cy : Nat → ClassId} (h : fx_env E D classes (tys cy) nestW) : fx_Met l yX12_has (.code yX12_has cX12_has 2 (some .boolean) :: wsL_law) ({ frames := 0, cells := 0, slots := 0, locals := 0 }) E (gsM, TM, cy, fun _ => True) ad D classes km171_c :=
  fx_sound (x := km171_x) (tb := t_X12_has) (an := km171_a) (sp := km171_s) (rk := 3) 11 h (fun _ _ _ _ _ _ => trivial) (fun _ _ _ _ _ _ => trivial) (ht_tys cy) (by decide) rfl ⟨fx_an, fx_an, fx_an, fx_an, fx_an, fx_an⟩ d_X12_has km171_k
-- X12_has i i ('c', 16) ('c', 9)
def km172_c : fx_C := ([.inl (16, 16), .inl (9, 9)], [], [(some (.inl (0, 0)), [.inl (16, 16), .inl (9, 9)], [])], [])
def km172_a : List fx_N := []
def km172_s : List fx_D := []
def km172_x : fx_X := ([], [], [], [], [], [])
set_option maxRecDepth 100000 in
theorem km172_k : fx_chk TM 2 km172_c 3 km172_x t_X12_has km172_a km172_s 11 = true := by decide +kernel
set_option maxRecDepth 100000 in
theorem km172 {l : Launch} {E : (Nat → Prop) → State → Prop} {ad : List Nat} {D : va_G} {cy : Nat → ClassId} (h : fx_env E D classes (tys cy) nestW) : fx_Met l yX12_has (.code yX12_has cX12_has 2 (some .boolean) :: wsL_law) ({ frames := 0, cells := 0, slots := 0, locals := 0 }) E (gsM, TM, cy, fun _ => True) ad D classes km172_c :=
  fx_sound (x := km172_x) (tb := t_X12_has) (an := km172_a) (sp := km172_s) (rk := 3) 11 h (fun _ _ _ _ _ _ => trivial) (fun _ _ _ _ _ _ => trivial) (ht_tys cy) (by decide) rfl ⟨fx_an, fx_an, fx_an, fx_an, fx_an, fx_an⟩ d_X12_has km172_k
-- X12_has i i ('c', 16) ('c', 10)
def km173_c : fx_C := ([.inl (16, 16), .inl (10, 10)], [], [(some (.inl (0, 0)), [.inl (16, 16), .inl (10, 10)], [])], [])
def km173_a : List fx_N := []
def km173_s : List fx_D := []
def km173_x : fx_X := ([], [], [], [], [], [])
set_option maxRecDepth 100000 in
theorem km173_k : fx_chk TM 2 km173_c 3 km173_x t_X12_has km173_a km173_s 11 = true := by decide +kernel
set_option maxRecDepth 100000 in
theorem km173 {l : Launch} {E : (Nat → Prop) → State → Prop} {ad : List Nat} {D : va_G} {cy : Nat → ClassId} (h : fx_env E D classes (tys cy) nestW) : fx_Met l yX12_has (.code yX12_has cX12_has 2 (some .boolean) :: wsL_law) ({ frames := 0, cells := 0, slots := 0, locals := 0 }) E (gsM, TM, cy, fun _ => True) ad D classes km173_c :=
  fx_sound (x := km173_x) (tb := t_X12_has) (an := km173_a) (sp := km173_s) (rk := 3) 11 h (fun _ _ _ _ _ _ => trivial) (fun _ _ _ _ _ _ => trivial) (ht_tys cy) (by decide) rfl ⟨fx_an, fx_an, fx_an, fx_an, fx_an, fx_an⟩ d_X12_has km173_k
-- X12_has i i ('c', 16) ('c', 11)
def km174_c : fx_C := ([.inl (16, 16), .inl (11, 11)], [], [(some (.inl (0, 0)), [.inl (16, 16), .inl (11, 11)], [])], [])
def km174_a : List fx_N := []
def km174_s : List fx_D := []
def km174_x : fx_X := ([], [], [], [], [], [])
set_option maxRecDepth 100000 in
theorem km174_k : fx_chk TM 2 km174_c 3 km174_x t_X12_has km174_a km174_s 11 = true := by decide +kernel
set_option maxRecDepth 100000 in
theorem km174 {l : Launch} {E : (Nat → Prop) → State → Prop} {ad : List Nat} {D : va_G} {cy : Nat → ClassId} (h : fx_env E D classes (tys cy) nestW) : fx_Met l yX12_has (.code yX12_has cX12_has 2 (some .boolean) :: wsL_law) ({ frames := 0, cells := 0, slots := 0, locals := 0 }) E (gsM, TM, cy, fun _ => True) ad D classes km174_c :=
  fx_sound (x := km174_x) (tb := t_X12_has) (an := km174_a) (sp := km174_s) (rk := 3) 11 h (fun _ _ _ _ _ _ => trivial) (fun _ _ _ _ _ _ => trivial) (ht_tys cy) (by decide) rfl ⟨fx_an, fx_an, fx_an, fx_an, fx_an, fx_an⟩ d_X12_has km174_k
-- X12_layWithout 0 i ('c', 16)
def km175_c : fx_C := ([.inr (.inr 1), .inl (16, 16)], [], [(none, [.inr (.inr 1), .inl (16, 16)], [((0, 45), .inl (0, 11))])], [(12, 45), (1000, 27)])
def km175_a : List fx_N := [(7, [(2, .inl (0, 0)), (0, .inr (.inr 1)), (1, .inl (16, 16))], [((1, 45), .inl (0, 0))], [(0, 12)], [(0, 1), (1, 2)]), (7, [(2, .inl (1, 1)), (0, .inr (.inr 1)), (1, .inl (16, 16))], [((1, 45), .inl (1, 1)), ((1, 41), .inr (.inr 27)), ((4, 12), .inl (1, 12))], [(0, 11)], [(0, 1), (1, 2)]), (7, [(2, .inl (2, 2)), (0, .inr (.inr 1)), (1, .inl (16, 16))], [((1, 45), .inl (2, 2)), ((1, 41), .inr (.inr 27)), ((4, 12), .inl (2, 12))], [(0, 10)], [(0, 1), (1, 2)]), (7, [(2, .inl (3, 3)), (0, .inr (.inr 1)), (1, .inl (16, 16))], [((1, 45), .inl (3, 3)), ((1, 41), .inr (.inr 27)), ((4, 12), .inl (3, 12))], [(0, 9)], [(0, 1), (1, 2)]), (7, [(2, .inl (4, 4)), (0, .inr (.inr 1)), (1, .inl (16, 16))], [((1, 45), .inl (4, 4)), ((1, 41), .inr (.inr 27)), ((4, 12), .inl (4, 12))], [(0, 8)], [(0, 1), (1, 2)]), (7, [(2, .inl (5, 5)), (0, .inr (.inr 1)), (1, .inl (16, 16))], [((1, 45), .inl (4, 4)), ((1, 41), .inr (.inr 27)), ((4, 12), .inl (5, 12))], [(0, 7)], [(0, 1), (1, 2)]), (7, [(2, .inl (6, 6)), (0, .inr (.inr 1)), (1, .inl (16, 16))], [((1, 45), .inl (5, 5)), ((1, 41), .inr (.inr 27)), ((4, 12), .inl (6, 12))], [(0, 6)], [(0, 1), (1, 2)]), (7, [(2, .inl (7, 7)), (0, .inr (.inr 1)), (1, .inl (16, 16))], [((1, 45), .inl (6, 6)), ((1, 41), .inr (.inr 27)), ((4, 12), .inl (7, 12))], [(0, 5)], [(0, 1), (1, 2)]), (7, [(2, .inl (8, 8)), (0, .inr (.inr 1)), (1, .inl (16, 16))], [((1, 45), .inl (7, 7)), ((1, 41), .inr (.inr 27)), ((4, 12), .inl (8, 12))], [(0, 4)], [(0, 1), (1, 2)]), (7, [(2, .inl (9, 9)), (0, .inr (.inr 1)), (1, .inl (16, 16))], [((1, 45), .inl (8, 8)), ((1, 41), .inr (.inr 27)), ((4, 12), .inl (9, 12))], [(0, 3)], [(0, 1), (1, 2)]), (7, [(2, .inl (10, 10)), (0, .inr (.inr 1)), (1, .inl (16, 16))], [((1, 45), .inl (9, 9)), ((1, 41), .inr (.inr 27)), ((4, 12), .inl (10, 12))], [(0, 2)], [(0, 1), (1, 2)]), (7, [(2, .inl (11, 11)), (0, .inr (.inr 1)), (1, .inl (16, 16))], [((1, 45), .inl (10, 10)), ((1, 41), .inr (.inr 27)), ((4, 12), .inl (11, 12))], [(0, 1)], [(0, 1), (1, 2)]), (7, [(2, .inl (12, 12)), (0, .inr (.inr 1)), (1, .inl (16, 16))], [((1, 45), .inl (11, 11)), ((1, 41), .inr (.inr 27)), ((4, 12), .inl (12, 12))], [(0, 0)], [(0, 1), (1, 2)])]
def km175_s : List fx_D := []
def km175_x : fx_X := ([], [(92, 12, 41), (95, 12, 42), (384, 12, 45)], [(384, 12, 45, 0)], [], [], [(20, 474, 1000, km163_c), (20, 474, 1000, km164_c), (20, 474, 1000, km165_c), (20, 474, 1000, km166_c), (20, 474, 1000, km167_c), (20, 474, 1000, km168_c), (20, 474, 1000, km169_c), (20, 474, 1000, km170_c), (20, 474, 1000, km171_c), (20, 474, 1000, km172_c), (20, 474, 1000, km173_c), (20, 474, 1000, km174_c)])
set_option maxRecDepth 100000 in
theorem km175_k : fx_chk TM 3 km175_c 9 km175_x t_X12_layWithout km175_a km175_s 32 = true := by decide +kernel
set_option maxRecDepth 100000 in
theorem km175 {l : Launch} {E : (Nat → Prop) → State → Prop} {ad : List Nat} {D : va_G} {cy : Nat → ClassId} (h : fx_env E D classes (tys cy) nestW) : fx_Met l yX12_layWithout (.code yX12_layWithout cX12_layWithout 3 none :: wsL_law) ({ frames := 1, cells := 0, slots := 0, locals := 21 }) E (gsM, TM, cy, fun _ => True) ad D classes km175_c :=
  fx_sound (x := km175_x) (tb := t_X12_layWithout) (an := km175_a) (sp := km175_s) (rk := 9) 32 h (fun _ _ _ _ _ _ => trivial) (fun _ _ _ _ _ _ => trivial) (ht_tys cy) (by decide) rfl ⟨fx_an, (fx_ac fl_X12_92 (fx_ac fl_X12_95 (fx_ac fl_X12_384 (fx_an)))), (fx_ac pl_X12_384 (fx_an)), fx_an, fx_an, (fx_ac (ev_S (km163 h) ⟨by decide, by decide⟩ iS_X12_has g_X12_474) (fx_ac (ev_S (km164 h) ⟨by decide, by decide⟩ iS_X12_has g_X12_474) (fx_ac (ev_S (km165 h) ⟨by decide, by decide⟩ iS_X12_has g_X12_474) (fx_ac (ev_S (km166 h) ⟨by decide, by decide⟩ iS_X12_has g_X12_474) (fx_ac (ev_S (km167 h) ⟨by decide, by decide⟩ iS_X12_has g_X12_474) (fx_ac (ev_S (km168 h) ⟨by decide, by decide⟩ iS_X12_has g_X12_474) (fx_ac (ev_S (km169 h) ⟨by decide, by decide⟩ iS_X12_has g_X12_474) (fx_ac (ev_S (km170 h) ⟨by decide, by decide⟩ iS_X12_has g_X12_474) (fx_ac (ev_S (km171 h) ⟨by decide, by decide⟩ iS_X12_has g_X12_474) (fx_ac (ev_S (km172 h) ⟨by decide, by decide⟩ iS_X12_has g_X12_474) (fx_ac (ev_S (km173 h) ⟨by decide, by decide⟩ iS_X12_has g_X12_474) (fx_ac (ev_S (km174 h) ⟨by decide, by decide⟩ iS_X12_has g_X12_474) (fx_an)))))))))))))⟩ d_X12_layWithout km175_k
-- X12_has i i ('c', 32) ('c', 0)
def km176_c : fx_C := ([.inl (32, 32), .inl (0, 0)], [], [(some (.inl (0, 0)), [.inl (32, 32), .inl (0, 0)], [])], [])
def km176_a : List fx_N := []
def km176_s : List fx_D := []
def km176_x : fx_X := ([], [], [], [], [], [])
set_option maxRecDepth 100000 in
theorem km176_k : fx_chk TM 2 km176_c 3 km176_x t_X12_has km176_a km176_s 11 = true := by decide +kernel
set_option maxRecDepth 100000 in
theorem km176 {l : Launch} {E : (Nat → Prop) → State → Prop} {ad : List Nat} {D : va_G} {cy : Nat → ClassId} (h : fx_env E D classes (tys cy) nestW) : fx_Met l yX12_has (.code yX12_has cX12_has 2 (some .boolean) :: wsL_law) ({ frames := 0, cells := 0, slots := 0, locals := 0 }) E (gsM, TM, cy, fun _ => True) ad D classes km176_c :=
  fx_sound (x := km176_x) (tb := t_X12_has) (an := km176_a) (sp := km176_s) (rk := 3) 11 h (fun _ _ _ _ _ _ => trivial) (fun _ _ _ _ _ _ => trivial) (ht_tys cy) (by decide) rfl ⟨fx_an, fx_an, fx_an, fx_an, fx_an, fx_an⟩ d_X12_has km176_k
-- X12_has i i ('c', 32) ('c', 1)
def km177_c : fx_C := ([.inl (32, 32), .inl (1, 1)], [], [(some (.inl (0, 0)), [.inl (32, 32), .inl (1, 1)], [])], [])
def km177_a : List fx_N := []
def km177_s : List fx_D := []
def km177_x : fx_X := ([], [], [], [], [], [])
set_option maxRecDepth 100000 in
theorem km177_k : fx_chk TM 2 km177_c 3 km177_x t_X12_has km177_a km177_s 11 = true := by decide +kernel
set_option maxRecDepth 100000 in
theorem km177 {l : Launch} {E : (Nat → Prop) → State → Prop} {ad : List Nat} {D : va_G} {cy : Nat → ClassId} (h : fx_env E D classes (tys cy) nestW) : fx_Met l yX12_has (.code yX12_has cX12_has 2 (some .boolean) :: wsL_law) ({ frames := 0, cells := 0, slots := 0, locals := 0 }) E (gsM, TM, cy, fun _ => True) ad D classes km177_c :=
  fx_sound (x := km177_x) (tb := t_X12_has) (an := km177_a) (sp := km177_s) (rk := 3) 11 h (fun _ _ _ _ _ _ => trivial) (fun _ _ _ _ _ _ => trivial) (ht_tys cy) (by decide) rfl ⟨fx_an, fx_an, fx_an, fx_an, fx_an, fx_an⟩ d_X12_has km177_k
-- X12_has i i ('c', 32) ('c', 2)
def km178_c : fx_C := ([.inl (32, 32), .inl (2, 2)], [], [(some (.inl (0, 0)), [.inl (32, 32), .inl (2, 2)], [])], [])
def km178_a : List fx_N := []
def km178_s : List fx_D := []
def km178_x : fx_X := ([], [], [], [], [], [])
set_option maxRecDepth 100000 in
theorem km178_k : fx_chk TM 2 km178_c 3 km178_x t_X12_has km178_a km178_s 11 = true := by decide +kernel
set_option maxRecDepth 100000 in
theorem km178 {l : Launch} {E : (Nat → Prop) → State → Prop} {ad : List Nat} {D : va_G} {cy : Nat → ClassId} (h : fx_env E D classes (tys cy) nestW) : fx_Met l yX12_has (.code yX12_has cX12_has 2 (some .boolean) :: wsL_law) ({ frames := 0, cells := 0, slots := 0, locals := 0 }) E (gsM, TM, cy, fun _ => True) ad D classes km178_c :=
  fx_sound (x := km178_x) (tb := t_X12_has) (an := km178_a) (sp := km178_s) (rk := 3) 11 h (fun _ _ _ _ _ _ => trivial) (fun _ _ _ _ _ _ => trivial) (ht_tys cy) (by decide) rfl ⟨fx_an, fx_an, fx_an, fx_an, fx_an, fx_an⟩ d_X12_has km178_k
-- X12_has i i ('c', 32) ('c', 3)
def km179_c : fx_C := ([.inl (32, 32), .inl (3, 3)], [], [(some (.inl (0, 0)), [.inl (32, 32), .inl (3, 3)], [])], [])
def km179_a : List fx_N := []
def km179_s : List fx_D := []
def km179_x : fx_X := ([], [], [], [], [], [])
set_option maxRecDepth 100000 in
theorem km179_k : fx_chk TM 2 km179_c 3 km179_x t_X12_has km179_a km179_s 11 = true := by decide +kernel
set_option maxRecDepth 100000 in
theorem km179 {l : Launch} {E : (Nat → Prop) → State → Prop} {ad : List Nat} {D : va_G} {cy : Nat → ClassId} (h : fx_env E D classes (tys cy) nestW) : fx_Met l yX12_has (.code yX12_has cX12_has 2 (some .boolean) :: wsL_law) ({ frames := 0, cells := 0, slots := 0, locals := 0 }) E (gsM, TM, cy, fun _ => True) ad D classes km179_c :=
  fx_sound (x := km179_x) (tb := t_X12_has) (an := km179_a) (sp := km179_s) (rk := 3) 11 h (fun _ _ _ _ _ _ => trivial) (fun _ _ _ _ _ _ => trivial) (ht_tys cy) (by decide) rfl ⟨fx_an, fx_an, fx_an, fx_an, fx_an, fx_an⟩ d_X12_has km179_k
-- X12_has i i ('c', 32) ('c', 4)
def km180_c : fx_C := ([.inl (32, 32), .inl (4, 4)], [], [(some (.inl (0, 0)), [.inl (32, 32), .inl (4, 4)], [])], [])
def km180_a : List fx_N := []
def km180_s : List fx_D := []
def km180_x : fx_X := ([], [], [], [], [], [])
set_option maxRecDepth 100000 in
theorem km180_k : fx_chk TM 2 km180_c 3 km180_x t_X12_has km180_a km180_s 11 = true := by decide +kernel
set_option maxRecDepth 100000 in
theorem km180 {l : Launch} {E : (Nat → Prop) → State → Prop} {ad : List Nat} {D : va_G} {cy : Nat → ClassId} (h : fx_env E D classes (tys cy) nestW) : fx_Met l yX12_has (.code yX12_has cX12_has 2 (some .boolean) :: wsL_law) ({ frames := 0, cells := 0, slots := 0, locals := 0 }) E (gsM, TM, cy, fun _ => True) ad D classes km180_c :=
  fx_sound (x := km180_x) (tb := t_X12_has) (an := km180_a) (sp := km180_s) (rk := 3) 11 h (fun _ _ _ _ _ _ => trivial) (fun _ _ _ _ _ _ => trivial) (ht_tys cy) (by decide) rfl ⟨fx_an, fx_an, fx_an, fx_an, fx_an, fx_an⟩ d_X12_has km180_k
-- X12_has i i ('c', 32) ('c', 5)
def km181_c : fx_C := ([.inl (32, 32), .inl (5, 5)], [], [(some (.inl (1, 1)), [.inl (32, 32), .inl (5, 5)], [])], [])
def km181_a : List fx_N := []
def km181_s : List fx_D := []
def km181_x : fx_X := ([], [], [], [], [], [])
set_option maxRecDepth 100000 in
theorem km181_k : fx_chk TM 2 km181_c 3 km181_x t_X12_has km181_a km181_s 12 = true := by decide +kernel
set_option maxRecDepth 100000 in
theorem km181 {l : Launch} {E : (Nat → Prop) → State → Prop} {ad : List Nat} {D : va_G} {cy : Nat → ClassId} (h : fx_env E D classes (tys cy) nestW) : fx_Met l yX12_has (.code yX12_has cX12_has 2 (some .boolean) :: wsL_law) ({ frames := 0, cells := 0, slots := 0, locals := 0 }) E (gsM, TM, cy, fun _ => True) ad D classes km181_c :=
  fx_sound (x := km181_x) (tb := t_X12_has) (an := km181_a) (sp := km181_s) (rk := 3) 12 h (fun _ _ _ _ _ _ => trivial) (fun _ _ _ _ _ _ => trivial) (ht_tys cy) (by decide) rfl ⟨fx_an, fx_an, fx_an, fx_an, fx_an, fx_an⟩ d_X12_has km181_k
-- X12_has i i ('c', 32) ('c', 6)
def km182_c : fx_C := ([.inl (32, 32), .inl (6, 6)], [], [(some (.inl (0, 0)), [.inl (32, 32), .inl (6, 6)], [])], [])
def km182_a : List fx_N := []
def km182_s : List fx_D := []
def km182_x : fx_X := ([], [], [], [], [], [])
set_option maxRecDepth 100000 in
theorem km182_k : fx_chk TM 2 km182_c 3 km182_x t_X12_has km182_a km182_s 11 = true := by decide +kernel
set_option maxRecDepth 100000 in
theorem km182 {l : Launch} {E : (Nat → Prop) → State → Prop} {ad : List Nat} {D : va_G} {cy : Nat → ClassId} (h : fx_env E D classes (tys cy) nestW) : fx_Met l yX12_has (.code yX12_has cX12_has 2 (some .boolean) :: wsL_law) ({ frames := 0, cells := 0, slots := 0, locals := 0 }) E (gsM, TM, cy, fun _ => True) ad D classes km182_c :=
  fx_sound (x := km182_x) (tb := t_X12_has) (an := km182_a) (sp := km182_s) (rk := 3) 11 h (fun _ _ _ _ _ _ => trivial) (fun _ _ _ _ _ _ => trivial) (ht_tys cy) (by decide) rfl ⟨fx_an, fx_an, fx_an, fx_an, fx_an, fx_an⟩ d_X12_has km182_k
-- X12_has i i ('c', 32) ('c', 7)
def km183_c : fx_C := ([.inl (32, 32), .inl (7, 7)], [], [(some (.inl (0, 0)), [.inl (32, 32), .inl (7, 7)], [])], [])
def km183_a : List fx_N := []
def km183_s : List fx_D := []
def km183_x : fx_X := ([], [], [], [], [], [])
set_option maxRecDepth 100000 in
theorem km183_k : fx_chk TM 2 km183_c 3 km183_x t_X12_has km183_a km183_s 11 = true := by decide +kernel
set_option maxRecDepth 100000 in
theorem km183 {l : Launch} {E : (Nat → Prop) → State → Prop} {ad : List Nat} {D : va_G} {cy : Nat → ClassId} (h : fx_env E D classes (tys cy) nestW) : fx_Met l yX12_has (.code yX12_has cX12_has 2 (some .boolean) :: wsL_law) ({ frames := 0, cells := 0, slots := 0, locals := 0 }) E (gsM, TM, cy, fun _ => True) ad D classes km183_c :=
  fx_sound (x := km183_x) (tb := t_X12_has) (an := km183_a) (sp := km183_s) (rk := 3) 11 h (fun _ _ _ _ _ _ => trivial) (fun _ _ _ _ _ _ => trivial) (ht_tys cy) (by decide) rfl ⟨fx_an, fx_an, fx_an, fx_an, fx_an, fx_an⟩ d_X12_has km183_k
-- X12_has i i ('c', 32) ('c', 8)
def km184_c : fx_C := ([.inl (32, 32), .inl (8, 8)], [], [(some (.inl (0, 0)), [.inl (32, 32), .inl (8, 8)], [])], [])
def km184_a : List fx_N := []
def km184_s : List fx_D := []
def km184_x : fx_X := ([], [], [], [], [], [])
set_option maxRecDepth 100000 in
theorem km184_k : fx_chk TM 2 km184_c 3 km184_x t_X12_has km184_a km184_s 11 = true := by decide +kernel
set_option maxRecDepth 100000 in
theorem km184 {l : Launch} {E : (Nat → Prop) → State → Prop} {ad : List Nat} {D : va_G} {cy : Nat → ClassId} (h : fx_env E D classes (tys cy) nestW) : fx_Met l yX12_has (.code yX12_has cX12_has 2 (some .boolean) :: wsL_law) ({ frames := 0, cells := 0, slots := 0, locals := 0 }) E (gsM, TM, cy, fun _ => True) ad D classes km184_c :=
  fx_sound (x := km184_x) (tb := t_X12_has) (an := km184_a) (sp := km184_s) (rk := 3) 11 h (fun _ _ _ _ _ _ => trivial) (fun _ _ _ _ _ _ => trivial) (ht_tys cy) (by decide) rfl ⟨fx_an, fx_an, fx_an, fx_an, fx_an, fx_an⟩ d_X12_has km184_k
-- X12_has i i ('c', 32) ('c', 9)
def km185_c : fx_C := ([.inl (32, 32), .inl (9, 9)], [], [(some (.inl (0, 0)), [.inl (32, 32), .inl (9, 9)], [])], [])
def km185_a : List fx_N := []
def km185_s : List fx_D := []
def km185_x : fx_X := ([], [], [], [], [], [])
set_option maxRecDepth 100000 in
theorem km185_k : fx_chk TM 2 km185_c 3 km185_x t_X12_has km185_a km185_s 11 = true := by decide +kernel
set_option maxRecDepth 100000 in
theorem km185 {l : Launch} {E : (Nat → Prop) → State → Prop} {ad : List Nat} {D : va_G} {cy : Nat → ClassId} (h : fx_env E D classes (tys cy) nestW) : fx_Met l yX12_has (.code yX12_has cX12_has 2 (some .boolean) :: wsL_law) ({ frames := 0, cells := 0, slots := 0, locals := 0 }) E (gsM, TM, cy, fun _ => True) ad D classes km185_c :=
  fx_sound (x := km185_x) (tb := t_X12_has) (an := km185_a) (sp := km185_s) (rk := 3) 11 h (fun _ _ _ _ _ _ => trivial) (fun _ _ _ _ _ _ => trivial) (ht_tys cy) (by decide) rfl ⟨fx_an, fx_an, fx_an, fx_an, fx_an, fx_an⟩ d_X12_has km185_k
-- X12_has i i ('c', 32) ('c', 10)
def km186_c : fx_C := ([.inl (32, 32), .inl (10, 10)], [], [(some (.inl (0, 0)), [.inl (32, 32), .inl (10, 10)], [])], [])
def km186_a : List fx_N := []
def km186_s : List fx_D := []
def km186_x : fx_X := ([], [], [], [], [], [])
set_option maxRecDepth 100000 in
theorem km186_k : fx_chk TM 2 km186_c 3 km186_x t_X12_has km186_a km186_s 11 = true := by decide +kernel
set_option maxRecDepth 100000 in
theorem km186 {l : Launch} {E : (Nat → Prop) → State → Prop} {ad : List Nat} {D : va_G} {cy : Nat → ClassId} (h : fx_env E D classes (tys cy) nestW) : fx_Met l yX12_has (.code yX12_has cX12_has 2 (some .boolean) :: wsL_law) ({ frames := 0, cells := 0, slots := 0, locals := 0 }) E (gsM, TM, cy, fun _ => True) ad D classes km186_c :=
  fx_sound (x := km186_x) (tb := t_X12_has) (an := km186_a) (sp := km186_s) (rk := 3) 11 h (fun _ _ _ _ _ _ => trivial) (fun _ _ _ _ _ _ => trivial) (ht_tys cy) (by decide) rfl ⟨fx_an, fx_an, fx_an, fx_an, fx_an, fx_an⟩ d_X12_has km186_k
-- X12_has i i ('c', 32) ('c', 11)
def km187_c : fx_C := ([.inl (32, 32), .inl (11, 11)], [], [(some (.inl (0, 0)), [.inl (32, 32), .inl (11, 11)], [])], [])
def km187_a : List fx_N := []
def km187_s : List fx_D := []
def km187_x : fx_X := ([], [], [], [], [], [])
set_option maxRecDepth 100000 in
theorem km187_k : fx_chk TM 2 km187_c 3 km187_x t_X12_has km187_a km187_s 11 = true := by decide +kernel
set_option maxRecDepth 100000 in
theorem km187 {l : Launch} {E : (Nat → Prop) → State → Prop} {ad : List Nat} {D : va_G} {cy : Nat → ClassId} (h : fx_env E D classes (tys cy) nestW) : fx_Met l yX12_has (.code yX12_has cX12_has 2 (some .boolean) :: wsL_law) ({ frames := 0, cells := 0, slots := 0, locals := 0 }) E (gsM, TM, cy, fun _ => True) ad D classes km187_c :=
  fx_sound (x := km187_x) (tb := t_X12_has) (an := km187_a) (sp := km187_s) (rk := 3) 11 h (fun _ _ _ _ _ _ => trivial) (fun _ _ _ _ _ _ => trivial) (ht_tys cy) (by decide) rfl ⟨fx_an, fx_an, fx_an, fx_an, fx_an, fx_an⟩ d_X12_has km187_k
-- X12_layWithout 0 i ('c', 32)
def km188_c : fx_C := ([.inr (.inr 1), .inl (32, 32)], [], [(none, [.inr (.inr 1), .inl (32, 32)], [((0, 45), .inl (0, 11))])], [(12, 45), (1000, 27)])
def km188_a : List fx_N := [(7, [(2, .inl (0, 0)), (0, .inr (.inr 1)), (1, .inl (32, 32))], [((1, 45), .inl (0, 0))], [(0, 12)], [(0, 1), (1, 2)]), (7, [(2, .inl (1, 1)), (0, .inr (.inr 1)), (1, .inl (32, 32))], [((1, 45), .inl (1, 1)), ((1, 41), .inr (.inr 27)), ((4, 12), .inl (1, 12))], [(0, 11)], [(0, 1), (1, 2)]), (7, [(2, .inl (2, 2)), (0, .inr (.inr 1)), (1, .inl (32, 32))], [((1, 45), .inl (2, 2)), ((1, 41), .inr (.inr 27)), ((4, 12), .inl (2, 12))], [(0, 10)], [(0, 1), (1, 2)]), (7, [(2, .inl (3, 3)), (0, .inr (.inr 1)), (1, .inl (32, 32))], [((1, 45), .inl (3, 3)), ((1, 41), .inr (.inr 27)), ((4, 12), .inl (3, 12))], [(0, 9)], [(0, 1), (1, 2)]), (7, [(2, .inl (4, 4)), (0, .inr (.inr 1)), (1, .inl (32, 32))], [((1, 45), .inl (4, 4)), ((1, 41), .inr (.inr 27)), ((4, 12), .inl (4, 12))], [(0, 8)], [(0, 1), (1, 2)]), (7, [(2, .inl (5, 5)), (0, .inr (.inr 1)), (1, .inl (32, 32))], [((1, 45), .inl (5, 5)), ((1, 41), .inr (.inr 27)), ((4, 12), .inl (5, 12))], [(0, 7)], [(0, 1), (1, 2)]), (7, [(2, .inl (6, 6)), (0, .inr (.inr 1)), (1, .inl (32, 32))], [((1, 45), .inl (5, 5)), ((1, 41), .inr (.inr 27)), ((4, 12), .inl (6, 12))], [(0, 6)], [(0, 1), (1, 2)]), (7, [(2, .inl (7, 7)), (0, .inr (.inr 1)), (1, .inl (32, 32))], [((1, 45), .inl (6, 6)), ((1, 41), .inr (.inr 27)), ((4, 12), .inl (7, 12))], [(0, 5)], [(0, 1), (1, 2)]), (7, [(2, .inl (8, 8)), (0, .inr (.inr 1)), (1, .inl (32, 32))], [((1, 45), .inl (7, 7)), ((1, 41), .inr (.inr 27)), ((4, 12), .inl (8, 12))], [(0, 4)], [(0, 1), (1, 2)]), (7, [(2, .inl (9, 9)), (0, .inr (.inr 1)), (1, .inl (32, 32))], [((1, 45), .inl (8, 8)), ((1, 41), .inr (.inr 27)), ((4, 12), .inl (9, 12))], [(0, 3)], [(0, 1), (1, 2)]), (7, [(2, .inl (10, 10)), (0, .inr (.inr 1)), (1, .inl (32, 32))], [((1, 45), .inl (9, 9)), ((1, 41), .inr (.inr 27)), ((4, 12), .inl (10, 12))], [(0, 2)], [(0, 1), (1, 2)]), (7, [(2, .inl (11, 11)), (0, .inr (.inr 1)), (1, .inl (32, 32))], [((1, 45), .inl (10, 10)), ((1, 41), .inr (.inr 27)), ((4, 12), .inl (11, 12))], [(0, 1)], [(0, 1), (1, 2)]), (7, [(2, .inl (12, 12)), (0, .inr (.inr 1)), (1, .inl (32, 32))], [((1, 45), .inl (11, 11)), ((1, 41), .inr (.inr 27)), ((4, 12), .inl (12, 12))], [(0, 0)], [(0, 1), (1, 2)])]
def km188_s : List fx_D := []
def km188_x : fx_X := ([], [(92, 12, 41), (95, 12, 42), (384, 12, 45)], [(384, 12, 45, 0)], [], [], [(20, 474, 1000, km176_c), (20, 474, 1000, km177_c), (20, 474, 1000, km178_c), (20, 474, 1000, km179_c), (20, 474, 1000, km180_c), (20, 474, 1000, km181_c), (20, 474, 1000, km182_c), (20, 474, 1000, km183_c), (20, 474, 1000, km184_c), (20, 474, 1000, km185_c), (20, 474, 1000, km186_c), (20, 474, 1000, km187_c)])
set_option maxRecDepth 100000 in
theorem km188_k : fx_chk TM 3 km188_c 9 km188_x t_X12_layWithout km188_a km188_s 32 = true := by decide +kernel
set_option maxRecDepth 100000 in
theorem km188 {l : Launch} {E : (Nat → Prop) → State → Prop} {ad : List Nat} {D : va_G} {cy : Nat → ClassId} (h : fx_env E D classes (tys cy) nestW) : fx_Met l yX12_layWithout (.code yX12_layWithout cX12_layWithout 3 none :: wsL_law) ({ frames := 1, cells := 0, slots := 0, locals := 21 }) E (gsM, TM, cy, fun _ => True) ad D classes km188_c :=
  fx_sound (x := km188_x) (tb := t_X12_layWithout) (an := km188_a) (sp := km188_s) (rk := 9) 32 h (fun _ _ _ _ _ _ => trivial) (fun _ _ _ _ _ _ => trivial) (ht_tys cy) (by decide) rfl ⟨fx_an, (fx_ac fl_X12_92 (fx_ac fl_X12_95 (fx_ac fl_X12_384 (fx_an)))), (fx_ac pl_X12_384 (fx_an)), fx_an, fx_an, (fx_ac (ev_S (km176 h) ⟨by decide, by decide⟩ iS_X12_has g_X12_474) (fx_ac (ev_S (km177 h) ⟨by decide, by decide⟩ iS_X12_has g_X12_474) (fx_ac (ev_S (km178 h) ⟨by decide, by decide⟩ iS_X12_has g_X12_474) (fx_ac (ev_S (km179 h) ⟨by decide, by decide⟩ iS_X12_has g_X12_474) (fx_ac (ev_S (km180 h) ⟨by decide, by decide⟩ iS_X12_has g_X12_474) (fx_ac (ev_S (km181 h) ⟨by decide, by decide⟩ iS_X12_has g_X12_474) (fx_ac (ev_S (km182 h) ⟨by decide, by decide⟩ iS_X12_has g_X12_474) (fx_ac (ev_S (km183 h) ⟨by decide, by decide⟩ iS_X12_has g_X12_474) (fx_ac (ev_S (km184 h) ⟨by decide, by decide⟩ iS_X12_has g_X12_474) (fx_ac (ev_S (km185 h) ⟨by decide, by decide⟩ iS_X12_has g_X12_474) (fx_ac (ev_S (km186 h) ⟨by decide, by decide⟩ iS_X12_has g_X12_474) (fx_ac (ev_S (km187 h) ⟨by decide, by decide⟩ iS_X12_has g_X12_474) (fx_an)))))))))))))⟩ d_X12_layWithout km188_k
-- X12_has i i ('c', 64) ('c', 0)
def km189_c : fx_C := ([.inl (64, 64), .inl (0, 0)], [], [(some (.inl (0, 0)), [.inl (64, 64), .inl (0, 0)], [])], [])
def km189_a : List fx_N := []
def km189_s : List fx_D := []
def km189_x : fx_X := ([], [], [], [], [], [])
set_option maxRecDepth 100000 in
theorem km189_k : fx_chk TM 2 km189_c 3 km189_x t_X12_has km189_a km189_s 11 = true := by decide +kernel
set_option maxRecDepth 100000 in
theorem km189 {l : Launch} {E : (Nat → Prop) → State → Prop} {ad : List Nat} {D : va_G} {cy : Nat → ClassId} (h : fx_env E D classes (tys cy) nestW) : fx_Met l yX12_has (.code yX12_has cX12_has 2 (some .boolean) :: wsL_law) ({ frames := 0, cells := 0, slots := 0, locals := 0 }) E (gsM, TM, cy, fun _ => True) ad D classes km189_c :=
  fx_sound (x := km189_x) (tb := t_X12_has) (an := km189_a) (sp := km189_s) (rk := 3) 11 h (fun _ _ _ _ _ _ => trivial) (fun _ _ _ _ _ _ => trivial) (ht_tys cy) (by decide) rfl ⟨fx_an, fx_an, fx_an, fx_an, fx_an, fx_an⟩ d_X12_has km189_k
-- X12_has i i ('c', 64) ('c', 1)
def km190_c : fx_C := ([.inl (64, 64), .inl (1, 1)], [], [(some (.inl (0, 0)), [.inl (64, 64), .inl (1, 1)], [])], [])
def km190_a : List fx_N := []
def km190_s : List fx_D := []
def km190_x : fx_X := ([], [], [], [], [], [])
set_option maxRecDepth 100000 in
theorem km190_k : fx_chk TM 2 km190_c 3 km190_x t_X12_has km190_a km190_s 11 = true := by decide +kernel
set_option maxRecDepth 100000 in
theorem km190 {l : Launch} {E : (Nat → Prop) → State → Prop} {ad : List Nat} {D : va_G} {cy : Nat → ClassId} (h : fx_env E D classes (tys cy) nestW) : fx_Met l yX12_has (.code yX12_has cX12_has 2 (some .boolean) :: wsL_law) ({ frames := 0, cells := 0, slots := 0, locals := 0 }) E (gsM, TM, cy, fun _ => True) ad D classes km190_c :=
  fx_sound (x := km190_x) (tb := t_X12_has) (an := km190_a) (sp := km190_s) (rk := 3) 11 h (fun _ _ _ _ _ _ => trivial) (fun _ _ _ _ _ _ => trivial) (ht_tys cy) (by decide) rfl ⟨fx_an, fx_an, fx_an, fx_an, fx_an, fx_an⟩ d_X12_has km190_k
-- X12_has i i ('c', 64) ('c', 2)
def km191_c : fx_C := ([.inl (64, 64), .inl (2, 2)], [], [(some (.inl (0, 0)), [.inl (64, 64), .inl (2, 2)], [])], [])
def km191_a : List fx_N := []
def km191_s : List fx_D := []
def km191_x : fx_X := ([], [], [], [], [], [])
set_option maxRecDepth 100000 in
theorem km191_k : fx_chk TM 2 km191_c 3 km191_x t_X12_has km191_a km191_s 11 = true := by decide +kernel
set_option maxRecDepth 100000 in
theorem km191 {l : Launch} {E : (Nat → Prop) → State → Prop} {ad : List Nat} {D : va_G} {cy : Nat → ClassId} (h : fx_env E D classes (tys cy) nestW) : fx_Met l yX12_has (.code yX12_has cX12_has 2 (some .boolean) :: wsL_law) ({ frames := 0, cells := 0, slots := 0, locals := 0 }) E (gsM, TM, cy, fun _ => True) ad D classes km191_c :=
  fx_sound (x := km191_x) (tb := t_X12_has) (an := km191_a) (sp := km191_s) (rk := 3) 11 h (fun _ _ _ _ _ _ => trivial) (fun _ _ _ _ _ _ => trivial) (ht_tys cy) (by decide) rfl ⟨fx_an, fx_an, fx_an, fx_an, fx_an, fx_an⟩ d_X12_has km191_k
-- X12_has i i ('c', 64) ('c', 3)
def km192_c : fx_C := ([.inl (64, 64), .inl (3, 3)], [], [(some (.inl (0, 0)), [.inl (64, 64), .inl (3, 3)], [])], [])
def km192_a : List fx_N := []
def km192_s : List fx_D := []
def km192_x : fx_X := ([], [], [], [], [], [])
set_option maxRecDepth 100000 in
theorem km192_k : fx_chk TM 2 km192_c 3 km192_x t_X12_has km192_a km192_s 11 = true := by decide +kernel
set_option maxRecDepth 100000 in
theorem km192 {l : Launch} {E : (Nat → Prop) → State → Prop} {ad : List Nat} {D : va_G} {cy : Nat → ClassId} (h : fx_env E D classes (tys cy) nestW) : fx_Met l yX12_has (.code yX12_has cX12_has 2 (some .boolean) :: wsL_law) ({ frames := 0, cells := 0, slots := 0, locals := 0 }) E (gsM, TM, cy, fun _ => True) ad D classes km192_c :=
  fx_sound (x := km192_x) (tb := t_X12_has) (an := km192_a) (sp := km192_s) (rk := 3) 11 h (fun _ _ _ _ _ _ => trivial) (fun _ _ _ _ _ _ => trivial) (ht_tys cy) (by decide) rfl ⟨fx_an, fx_an, fx_an, fx_an, fx_an, fx_an⟩ d_X12_has km192_k
-- X12_has i i ('c', 64) ('c', 4)
def km193_c : fx_C := ([.inl (64, 64), .inl (4, 4)], [], [(some (.inl (0, 0)), [.inl (64, 64), .inl (4, 4)], [])], [])
def km193_a : List fx_N := []
def km193_s : List fx_D := []
def km193_x : fx_X := ([], [], [], [], [], [])
set_option maxRecDepth 100000 in
theorem km193_k : fx_chk TM 2 km193_c 3 km193_x t_X12_has km193_a km193_s 11 = true := by decide +kernel
set_option maxRecDepth 100000 in
theorem km193 {l : Launch} {E : (Nat → Prop) → State → Prop} {ad : List Nat} {D : va_G} {cy : Nat → ClassId} (h : fx_env E D classes (tys cy) nestW) : fx_Met l yX12_has (.code yX12_has cX12_has 2 (some .boolean) :: wsL_law) ({ frames := 0, cells := 0, slots := 0, locals := 0 }) E (gsM, TM, cy, fun _ => True) ad D classes km193_c :=
  fx_sound (x := km193_x) (tb := t_X12_has) (an := km193_a) (sp := km193_s) (rk := 3) 11 h (fun _ _ _ _ _ _ => trivial) (fun _ _ _ _ _ _ => trivial) (ht_tys cy) (by decide) rfl ⟨fx_an, fx_an, fx_an, fx_an, fx_an, fx_an⟩ d_X12_has km193_k
-- X12_has i i ('c', 64) ('c', 5)
def km194_c : fx_C := ([.inl (64, 64), .inl (5, 5)], [], [(some (.inl (0, 0)), [.inl (64, 64), .inl (5, 5)], [])], [])
def km194_a : List fx_N := []
def km194_s : List fx_D := []
def km194_x : fx_X := ([], [], [], [], [], [])
set_option maxRecDepth 100000 in
theorem km194_k : fx_chk TM 2 km194_c 3 km194_x t_X12_has km194_a km194_s 11 = true := by decide +kernel
set_option maxRecDepth 100000 in
theorem km194 {l : Launch} {E : (Nat → Prop) → State → Prop} {ad : List Nat} {D : va_G} {cy : Nat → ClassId} (h : fx_env E D classes (tys cy) nestW) : fx_Met l yX12_has (.code yX12_has cX12_has 2 (some .boolean) :: wsL_law) ({ frames := 0, cells := 0, slots := 0, locals := 0 }) E (gsM, TM, cy, fun _ => True) ad D classes km194_c :=
  fx_sound (x := km194_x) (tb := t_X12_has) (an := km194_a) (sp := km194_s) (rk := 3) 11 h (fun _ _ _ _ _ _ => trivial) (fun _ _ _ _ _ _ => trivial) (ht_tys cy) (by decide) rfl ⟨fx_an, fx_an, fx_an, fx_an, fx_an, fx_an⟩ d_X12_has km194_k
-- X12_has i i ('c', 64) ('c', 6)
def km195_c : fx_C := ([.inl (64, 64), .inl (6, 6)], [], [(some (.inl (1, 1)), [.inl (64, 64), .inl (6, 6)], [])], [])
def km195_a : List fx_N := []
def km195_s : List fx_D := []
def km195_x : fx_X := ([], [], [], [], [], [])
set_option maxRecDepth 100000 in
theorem km195_k : fx_chk TM 2 km195_c 3 km195_x t_X12_has km195_a km195_s 12 = true := by decide +kernel
set_option maxRecDepth 100000 in
theorem km195 {l : Launch} {E : (Nat → Prop) → State → Prop} {ad : List Nat} {D : va_G} {cy : Nat → ClassId} (h : fx_env E D classes (tys cy) nestW) : fx_Met l yX12_has (.code yX12_has cX12_has 2 (some .boolean) :: wsL_law) ({ frames := 0, cells := 0, slots := 0, locals := 0 }) E (gsM, TM, cy, fun _ => True) ad D classes km195_c :=
  fx_sound (x := km195_x) (tb := t_X12_has) (an := km195_a) (sp := km195_s) (rk := 3) 12 h (fun _ _ _ _ _ _ => trivial) (fun _ _ _ _ _ _ => trivial) (ht_tys cy) (by decide) rfl ⟨fx_an, fx_an, fx_an, fx_an, fx_an, fx_an⟩ d_X12_has km195_k
-- X12_has i i ('c', 64) ('c', 7)
def km196_c : fx_C := ([.inl (64, 64), .inl (7, 7)], [], [(some (.inl (0, 0)), [.inl (64, 64), .inl (7, 7)], [])], [])
def km196_a : List fx_N := []
def km196_s : List fx_D := []
def km196_x : fx_X := ([], [], [], [], [], [])
set_option maxRecDepth 100000 in
theorem km196_k : fx_chk TM 2 km196_c 3 km196_x t_X12_has km196_a km196_s 11 = true := by decide +kernel
set_option maxRecDepth 100000 in
theorem km196 {l : Launch} {E : (Nat → Prop) → State → Prop} {ad : List Nat} {D : va_G} {cy : Nat → ClassId} (h : fx_env E D classes (tys cy) nestW) : fx_Met l yX12_has (.code yX12_has cX12_has 2 (some .boolean) :: wsL_law) ({ frames := 0, cells := 0, slots := 0, locals := 0 }) E (gsM, TM, cy, fun _ => True) ad D classes km196_c :=
  fx_sound (x := km196_x) (tb := t_X12_has) (an := km196_a) (sp := km196_s) (rk := 3) 11 h (fun _ _ _ _ _ _ => trivial) (fun _ _ _ _ _ _ => trivial) (ht_tys cy) (by decide) rfl ⟨fx_an, fx_an, fx_an, fx_an, fx_an, fx_an⟩ d_X12_has km196_k
-- X12_has i i ('c', 64) ('c', 8)
def km197_c : fx_C := ([.inl (64, 64), .inl (8, 8)], [], [(some (.inl (0, 0)), [.inl (64, 64), .inl (8, 8)], [])], [])
def km197_a : List fx_N := []
def km197_s : List fx_D := []
def km197_x : fx_X := ([], [], [], [], [], [])
set_option maxRecDepth 100000 in
theorem km197_k : fx_chk TM 2 km197_c 3 km197_x t_X12_has km197_a km197_s 11 = true := by decide +kernel
set_option maxRecDepth 100000 in
theorem km197 {l : Launch} {E : (Nat → Prop) → State → Prop} {ad : List Nat} {D : va_G} {cy : Nat → ClassId} (h : fx_env E D classes (tys cy) nestW) : fx_Met l yX12_has (.code yX12_has cX12_has 2 (some .boolean) :: wsL_law) ({ frames := 0, cells := 0, slots := 0, locals := 0 }) E (gsM, TM, cy, fun _ => True) ad D classes km197_c :=
  fx_sound (x := km197_x) (tb := t_X12_has) (an := km197_a) (sp := km197_s) (rk := 3) 11 h (fun _ _ _ _ _ _ => trivial) (fun _ _ _ _ _ _ => trivial) (ht_tys cy) (by decide) rfl ⟨fx_an, fx_an, fx_an, fx_an, fx_an, fx_an⟩ d_X12_has km197_k
-- X12_has i i ('c', 64) ('c', 9)
def km198_c : fx_C := ([.inl (64, 64), .inl (9, 9)], [], [(some (.inl (0, 0)), [.inl (64, 64), .inl (9, 9)], [])], [])
def km198_a : List fx_N := []
def km198_s : List fx_D := []
def km198_x : fx_X := ([], [], [], [], [], [])
set_option maxRecDepth 100000 in
theorem km198_k : fx_chk TM 2 km198_c 3 km198_x t_X12_has km198_a km198_s 11 = true := by decide +kernel
set_option maxRecDepth 100000 in
theorem km198 {l : Launch} {E : (Nat → Prop) → State → Prop} {ad : List Nat} {D : va_G} {cy : Nat → ClassId} (h : fx_env E D classes (tys cy) nestW) : fx_Met l yX12_has (.code yX12_has cX12_has 2 (some .boolean) :: wsL_law) ({ frames := 0, cells := 0, slots := 0, locals := 0 }) E (gsM, TM, cy, fun _ => True) ad D classes km198_c :=
  fx_sound (x := km198_x) (tb := t_X12_has) (an := km198_a) (sp := km198_s) (rk := 3) 11 h (fun _ _ _ _ _ _ => trivial) (fun _ _ _ _ _ _ => trivial) (ht_tys cy) (by decide) rfl ⟨fx_an, fx_an, fx_an, fx_an, fx_an, fx_an⟩ d_X12_has km198_k
-- X12_has i i ('c', 64) ('c', 10)
def km199_c : fx_C := ([.inl (64, 64), .inl (10, 10)], [], [(some (.inl (0, 0)), [.inl (64, 64), .inl (10, 10)], [])], [])
def km199_a : List fx_N := []
def km199_s : List fx_D := []
def km199_x : fx_X := ([], [], [], [], [], [])
set_option maxRecDepth 100000 in
theorem km199_k : fx_chk TM 2 km199_c 3 km199_x t_X12_has km199_a km199_s 11 = true := by decide +kernel
set_option maxRecDepth 100000 in
theorem km199 {l : Launch} {E : (Nat → Prop) → State → Prop} {ad : List Nat} {D : va_G} {cy : Nat → ClassId} (h : fx_env E D classes (tys cy) nestW) : fx_Met l yX12_has (.code yX12_has cX12_has 2 (some .boolean) :: wsL_law) ({ frames := 0, cells := 0, slots := 0, locals := 0 }) E (gsM, TM, cy, fun _ => True) ad D classes km199_c :=
  fx_sound (x := km199_x) (tb := t_X12_has) (an := km199_a) (sp := km199_s) (rk := 3) 11 h (fun _ _ _ _ _ _ => trivial) (fun _ _ _ _ _ _ => trivial) (ht_tys cy) (by decide) rfl ⟨fx_an, fx_an, fx_an, fx_an, fx_an, fx_an⟩ d_X12_has km199_k
