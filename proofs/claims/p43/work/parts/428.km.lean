-- X12_choices i i ('c', 6)
def km313_c : fx_C := ([.inl (6, 12), .inl (6, 6)], [], [(some (.inl (1, 924)), [.inl (6, 12), .inl (6, 6)], [])], [])
def km313_a : List fx_N := [(4, [(3, .inl (1, 1)), (0, .inl (6, 12)), (1, .inl (6, 6)), (2, .inl (1, 1))], [], [(0, 6)], [(0, 1), (1, 2)]), (4, [(3, .inl (2, 2)), (0, .inl (6, 12)), (1, .inl (6, 6)), (2, .inl (6, 12))], [], [(0, 5)], [(0, 1), (1, 2)]), (4, [(3, .inl (3, 3)), (0, .inl (6, 12)), (1, .inl (6, 6)), (2, .inl (15, 66))], [], [(0, 4)], [(0, 1), (1, 2)]), (4, [(3, .inl (4, 4)), (0, .inl (6, 12)), (1, .inl (6, 6)), (2, .inl (20, 220))], [], [(0, 3)], [(0, 1), (1, 2)]), (4, [(3, .inl (5, 5)), (0, .inl (6, 12)), (1, .inl (6, 6)), (2, .inl (15, 495))], [], [(0, 2)], [(0, 1), (1, 2)]), (4, [(3, .inl (6, 6)), (0, .inl (6, 12)), (1, .inl (6, 6)), (2, .inl (6, 792))], [], [(0, 1)], [(0, 1), (1, 2)]), (4, [(3, .inl (7, 7)), (0, .inl (6, 12)), (1, .inl (6, 6)), (2, .inl (1, 924))], [], [(0, 0)], [(0, 1), (1, 2)])]
def km313_s : List fx_D := []
def km313_x : fx_X := ([], [], [], [], [], [])
set_option maxRecDepth 100000 in
theorem km313_k : fx_chk TM 4 km313_c 0 km313_x t_X12_choices km313_a km313_s 18 = true := by decide +kernel
set_option maxRecDepth 100000 in
theorem km313 {l : Launch} {E : (Nat → Prop) → State → Prop} {ad : List Nat} {D : va_G} {cy : Nat → ClassId} (h : fx_env E D classes (tys cy) nestW) : fx_Met l yX12_choices (.code yX12_choices cX12_choices 4 (some .int) :: wsL_law) ({ frames := 0, cells := 0, slots := 0, locals := 0 }) E (gsM, TM, cy, fun _ => True) ad D classes km313_c :=
  fx_sound (x := km313_x) (tb := t_X12_choices) (an := km313_a) (sp := km313_s) (rk := 0) 18 h (fun _ _ _ _ _ _ => trivial) (fun _ _ _ _ _ _ => trivial) (ht_tys cy) (by decide) rfl ⟨fx_an, fx_an, fx_an, fx_an, fx_an, fx_an⟩ d_X12_choices km313_k
-- X12_choices i i ('c', 7)
def km314_c : fx_C := ([.inl (7, 12), .inl (7, 7)], [], [(some (.inl (1, 792)), [.inl (7, 12), .inl (7, 7)], [])], [])
def km314_a : List fx_N := [(4, [(3, .inl (1, 1)), (0, .inl (7, 12)), (1, .inl (7, 7)), (2, .inl (1, 1))], [], [(0, 7)], [(0, 1), (1, 2)]), (4, [(3, .inl (2, 2)), (0, .inl (7, 12)), (1, .inl (7, 7)), (2, .inl (7, 12))], [], [(0, 6)], [(0, 1), (1, 2)]), (4, [(3, .inl (3, 3)), (0, .inl (7, 12)), (1, .inl (7, 7)), (2, .inl (21, 66))], [], [(0, 5)], [(0, 1), (1, 2)]), (4, [(3, .inl (4, 4)), (0, .inl (7, 12)), (1, .inl (7, 7)), (2, .inl (35, 220))], [], [(0, 4)], [(0, 1), (1, 2)]), (4, [(3, .inl (5, 5)), (0, .inl (7, 12)), (1, .inl (7, 7)), (2, .inl (35, 495))], [], [(0, 3)], [(0, 1), (1, 2)]), (4, [(3, .inl (6, 6)), (0, .inl (7, 12)), (1, .inl (7, 7)), (2, .inl (21, 792))], [], [(0, 2)], [(0, 1), (1, 2)]), (4, [(3, .inl (7, 7)), (0, .inl (7, 12)), (1, .inl (7, 7)), (2, .inl (7, 924))], [], [(0, 1)], [(0, 1), (1, 2)]), (4, [(3, .inl (8, 8)), (0, .inl (7, 12)), (1, .inl (7, 7)), (2, .inl (1, 792))], [], [(0, 0)], [(0, 1), (1, 2)])]
def km314_s : List fx_D := []
def km314_x : fx_X := ([], [], [], [], [], [])
set_option maxRecDepth 100000 in
theorem km314_k : fx_chk TM 4 km314_c 0 km314_x t_X12_choices km314_a km314_s 18 = true := by decide +kernel
set_option maxRecDepth 100000 in
theorem km314 {l : Launch} {E : (Nat → Prop) → State → Prop} {ad : List Nat} {D : va_G} {cy : Nat → ClassId} (h : fx_env E D classes (tys cy) nestW) : fx_Met l yX12_choices (.code yX12_choices cX12_choices 4 (some .int) :: wsL_law) ({ frames := 0, cells := 0, slots := 0, locals := 0 }) E (gsM, TM, cy, fun _ => True) ad D classes km314_c :=
  fx_sound (x := km314_x) (tb := t_X12_choices) (an := km314_a) (sp := km314_s) (rk := 0) 18 h (fun _ _ _ _ _ _ => trivial) (fun _ _ _ _ _ _ => trivial) (ht_tys cy) (by decide) rfl ⟨fx_an, fx_an, fx_an, fx_an, fx_an, fx_an⟩ d_X12_choices km314_k
-- X12_choices i i ('c', 8)
def km315_c : fx_C := ([.inl (8, 12), .inl (8, 8)], [], [(some (.inl (1, 495)), [.inl (8, 12), .inl (8, 8)], [])], [])
def km315_a : List fx_N := [(4, [(3, .inl (1, 1)), (0, .inl (8, 12)), (1, .inl (8, 8)), (2, .inl (1, 1))], [], [(0, 8)], [(0, 1), (1, 2)]), (4, [(3, .inl (2, 2)), (0, .inl (8, 12)), (1, .inl (8, 8)), (2, .inl (8, 12))], [], [(0, 7)], [(0, 1), (1, 2)]), (4, [(3, .inl (3, 3)), (0, .inl (8, 12)), (1, .inl (8, 8)), (2, .inl (28, 66))], [], [(0, 6)], [(0, 1), (1, 2)]), (4, [(3, .inl (4, 4)), (0, .inl (8, 12)), (1, .inl (8, 8)), (2, .inl (56, 220))], [], [(0, 5)], [(0, 1), (1, 2)]), (4, [(3, .inl (5, 5)), (0, .inl (8, 12)), (1, .inl (8, 8)), (2, .inl (70, 495))], [], [(0, 4)], [(0, 1), (1, 2)]), (4, [(3, .inl (6, 6)), (0, .inl (8, 12)), (1, .inl (8, 8)), (2, .inl (56, 792))], [], [(0, 3)], [(0, 1), (1, 2)]), (4, [(3, .inl (7, 7)), (0, .inl (8, 12)), (1, .inl (8, 8)), (2, .inl (28, 924))], [], [(0, 2)], [(0, 1), (1, 2)]), (4, [(3, .inl (8, 8)), (0, .inl (8, 12)), (1, .inl (8, 8)), (2, .inl (8, 792))], [], [(0, 1)], [(0, 1), (1, 2)]), (4, [(3, .inl (9, 9)), (0, .inl (8, 12)), (1, .inl (8, 8)), (2, .inl (1, 495))], [], [(0, 0)], [(0, 1), (1, 2)])]
def km315_s : List fx_D := []
def km315_x : fx_X := ([], [], [], [], [], [])
set_option maxRecDepth 100000 in
theorem km315_k : fx_chk TM 4 km315_c 0 km315_x t_X12_choices km315_a km315_s 18 = true := by decide +kernel
set_option maxRecDepth 100000 in
theorem km315 {l : Launch} {E : (Nat → Prop) → State → Prop} {ad : List Nat} {D : va_G} {cy : Nat → ClassId} (h : fx_env E D classes (tys cy) nestW) : fx_Met l yX12_choices (.code yX12_choices cX12_choices 4 (some .int) :: wsL_law) ({ frames := 0, cells := 0, slots := 0, locals := 0 }) E (gsM, TM, cy, fun _ => True) ad D classes km315_c :=
  fx_sound (x := km315_x) (tb := t_X12_choices) (an := km315_a) (sp := km315_s) (rk := 0) 18 h (fun _ _ _ _ _ _ => trivial) (fun _ _ _ _ _ _ => trivial) (ht_tys cy) (by decide) rfl ⟨fx_an, fx_an, fx_an, fx_an, fx_an, fx_an⟩ d_X12_choices km315_k
