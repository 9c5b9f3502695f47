-- X12_two i i i
def km357_c : fx_C := ([.inl (-2147483648, 2147483647), .inl (-2147483648, 2147483647), .inl (-2147483648, 2147483647)], [], [(some (.inl (1, 1)), [.inl (-2147483648, 2147483647), .inl (-2147483648, 2147483647), .inl (-2147483648, 2147483647)], []), (some (.inl (0, 0)), [.inl (-2147483648, 2147483647), .inl (-2147483648, 2147483647), .inl (-2147483648, 2147483647)], []), (some (.inl (-2147483648, 2147483647)), [.inl (37, 47), .inl (-2147483648, 2147483647), .inl (-2147483648, 2147483647)], [])], [])
def km357_a : List fx_N := []
def km357_s : List fx_D := []
def km357_x : fx_X := ([], [], [], [], [], [])
set_option maxRecDepth 100000 in
theorem km357_k : fx_chk TM 3 km357_c 0 km357_x t_X12_two km357_a km357_s 11 = true := by decide +kernel
set_option maxRecDepth 100000 in
theorem km357 {l : Launch} {E : (Nat → Prop) → State → Prop} {ad : List Nat} {D : va_G} {cy : Nat → ClassId} (h : fx_env E D classes (tys cy) nestW) : fx_Met l yX12_two (.code yX12_two cX12_two 3 (some .int) :: wsL_law) ({ frames := 0, cells := 0, slots := 0, locals := 0 }) E (gsM, TM, cy, fun _ => True) ad D classes km357_c :=
  fx_sound (x := km357_x) (tb := t_X12_two) (an := km357_a) (sp := km357_s) (rk := 0) 11 h (fun _ _ _ _ _ _ => trivial) (fun _ _ _ _ _ _ => trivial) (ht_tys cy) (by decide) rfl ⟨fx_an, fx_an, fx_an, fx_an, fx_an, fx_an⟩ d_X12_two km357_k
-- X12_timesOf 0 i
def km358_c : fx_C := ([.inr (.inr 1), .inl (0, 8)], [], [(some (.inl (-2147483648, 2147483647)), [.inr (.inr 1), .inl (0, 8)], [])], [])
def km358_a : List fx_N := [(4, [(0, .inr (.inr 1)), (1, .inl (0, 8)), (2, .inl (-2147483648, 2147483647)), (3, .inl (0, 12))], [], [(0, 0), (1, 3), (0, 0)], [(0, 0), (1, 1)])]
def km358_s : List fx_D := []
def km358_x : fx_X := ([], [(92, 12, 41)], [], [], [], [])
set_option maxRecDepth 100000 in
theorem km358_k : fx_chk TM 4 km358_c 0 km358_x t_X12_timesOf km358_a km358_s 24 = true := by decide +kernel
set_option maxRecDepth 100000 in
theorem km358 {l : Launch} {E : (Nat → Prop) → State → Prop} {ad : List Nat} {D : va_G} {cy : Nat → ClassId} (h : fx_env E D classes (tys cy) nestW) : fx_Met l yX12_timesOf (.code yX12_timesOf cX12_timesOf 4 (some .int) :: wsL_law) ({ frames := 0, cells := 0, slots := 0, locals := 0 }) E (gsM, TM, cy, fun _ => True) ad D classes km358_c :=
  fx_sound (x := km358_x) (tb := t_X12_timesOf) (an := km358_a) (sp := km358_s) (rk := 0) 24 h (fun _ _ _ _ _ _ => trivial) (fun _ _ _ _ _ _ => trivial) (ht_tys cy) (by decide) rfl ⟨fx_an, (fx_ac fl_X12_92 (fx_an)), fx_an, fx_an, fx_an, fx_an⟩ d_X12_timesOf km358_k
-- X12_asked 0 i i
def km359_c : fx_C := ([.inr (.inr 1), .inl (-2147483648, 2147483647), .inl (-2147483648, 2147483647)], [], [(some (.inl (-2147483648, 2147483647)), [.inr (.inr 1), .inl (-2147483648, 2147483647), .inl (-2147483648, 2147483647)], []), (some (.inl (0, 0)), [.inr (.inr 1), .inl (108, 114), .inl (-2147483648, 2147483647)], [])], [])
def km359_a : List fx_N := []
def km359_s : List fx_D := []
def km359_x : fx_X := ([], [(39, 12, 17), (92, 12, 41), (274, 12, 34), (344, 12, 40)], [], [], [], [(106, 347, 12, km358_c), (132, 350, 12, km18_c), (171, 350, 12, km18_c)])
set_option maxRecDepth 100000 in
theorem km359_k : fx_chk TM 4 km359_c 0 km359_x t_X12_asked km359_a km359_s 35 = true := by decide +kernel
set_option maxRecDepth 100000 in
theorem km359 {l : Launch} {E : (Nat → Prop) → State → Prop} {ad : List Nat} {D : va_G} {cy : Nat → ClassId} (h : fx_env E D classes (tys cy) nestW) : fx_Met l yX12_asked (.code yX12_asked cX12_asked 4 (some .int) :: wsL_law) ({ frames := 1, cells := 0, slots := 0, locals := 23 }) E (gsM, TM, cy, fun _ => True) ad D classes km359_c :=
  fx_sound (x := km359_x) (tb := t_X12_asked) (an := km359_a) (sp := km359_s) (rk := 0) 35 h (fun _ _ _ _ _ _ => trivial) (fun _ _ _ _ _ _ => trivial) (ht_tys cy) (by decide) rfl ⟨fx_an, (fx_ac fl_X12_39 (fx_ac fl_X12_92 (fx_ac fl_X12_274 (fx_ac fl_X12_344 (fx_an))))), fx_an, fx_an, fx_an, (fx_ac (ev_V (km358 h) (by decide) rfl ⟨by decide, by decide⟩ iV_X12_timesOf g_X12_347) (fx_ac (ev_V (km18 h) (by decide) rfl ⟨by decide, by decide⟩ iV_X12_besideTo g_X12_350) (fx_ac (ev_V (km18 h) (by decide) rfl ⟨by decide, by decide⟩ iV_X12_besideTo g_X12_350) (fx_an))))⟩ d_X12_asked km359_k
