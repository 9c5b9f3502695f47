-- X12_two i i i
def km306_c : fx_C := ([.inl (-2147483648, 2147483647), .inl (-2147483648, 2147483647), .inl (-2147483648, 2147483647)], [], [(some (.inl (1, 1)), [.inl (-2147483648, 2147483647), .inl (-2147483648, 2147483647), .inl (-2147483648, 2147483647)], []), (some (.inl (0, 0)), [.inl (-2147483648, 2147483647), .inl (-2147483648, 2147483647), .inl (-2147483648, 2147483647)], []), (some (.inl (-2147483648, 2147483647)), [.inl (37, 47), .inl (-2147483648, 2147483647), .inl (-2147483648, 2147483647)], [])], [])
def km306_a : List fx_N := []
def km306_s : List fx_D := []
def km306_x : fx_X := ([], [], [], [], [], [])
set_option maxRecDepth 100000 in
theorem km306_k : fx_chk TM 3 km306_c 0 km306_x t_X12_two km306_a km306_s 11 = true := by decide +kernel
set_option maxRecDepth 100000 in
theorem km306 {l : Launch} {E : (Nat → Prop) → State → Prop} {ad : List Nat} {D : va_G} {cy : Nat → ClassId} (h : fx_env E D classes (tys cy) nestW) : fx_Met l yX12_two (.code yX12_two cX12_two 3 (some .int) :: wsL_law) ({ frames := 0, cells := 0, slots := 0, locals := 0 }) E (gsM, TM, cy, fun _ => True) ad D classes km306_c :=
  fx_sound (x := km306_x) (tb := t_X12_two) (an := km306_a) (sp := km306_s) (rk := 0) 11 h (fun _ _ _ _ _ _ => trivial) (fun _ _ _ _ _ _ => trivial) (ht_tys cy) (by decide) rfl ⟨fx_an, fx_an, fx_an, fx_an, fx_an, fx_an⟩ d_X12_two km306_k
-- X12_timesOf 0 i
def km307_c : fx_C := ([.inr (.inr 1), .inl (0, 8)], [], [(some (.inl (-2147483648, 2147483647)), [.inr (.inr 1), .inl (0, 8)], [])], [])
def km307_a : List fx_N := [(4, [(0, .inr (.inr 1)), (1, .inl (0, 8)), (2, .inl (-2147483648, 2147483647)), (3, .inl (0, 12))], [], [(0, 0), (1, 3), (0, 0)], [(0, 0), (1, 1)])]
def km307_s : List fx_D := []
def km307_x : fx_X := ([], [(92, 12, 41)], [], [], [], [])
set_option maxRecDepth 100000 in
theorem km307_k : fx_chk TM 4 km307_c 0 km307_x t_X12_timesOf km307_a km307_s 24 = true := by decide +kernel
set_option maxRecDepth 100000 in
theorem km307 {l : Launch} {E : (Nat → Prop) → State → Prop} {ad : List Nat} {D : va_G} {cy : Nat → ClassId} (h : fx_env E D classes (tys cy) nestW) : fx_Met l yX12_timesOf (.code yX12_timesOf cX12_timesOf 4 (some .int) :: wsL_law) ({ frames := 0, cells := 0, slots := 0, locals := 0 }) E (gsM, TM, cy, fun _ => True) ad D classes km307_c :=
  fx_sound (x := km307_x) (tb := t_X12_timesOf) (an := km307_a) (sp := km307_s) (rk := 0) 24 h (fun _ _ _ _ _ _ => trivial) (fun _ _ _ _ _ _ => trivial) (ht_tys cy) (by decide) rfl ⟨fx_an, (fx_ac fl_X12_92 (fx_an)), fx_an, fx_an, fx_an, fx_an⟩ d_X12_timesOf km307_k
-- X12_asked 0 i i
def km308_c : fx_C := ([.inr (.inr 1), .inl (-2147483648, 2147483647), .inl (-2147483648, 2147483647)], [], [(some (.inl (-2147483648, 2147483647)), [.inr (.inr 1), .inl (-2147483648, 2147483647), .inl (-2147483648, 2147483647)], []), (some (.inl (0, 0)), [.inr (.inr 1), .inl (108, 114), .inl (-2147483648, 2147483647)], [])], [])
def km308_a : List fx_N := []
def km308_s : List fx_D := []
def km308_x : fx_X := ([], [(39, 12, 17), (92, 12, 41), (274, 12, 34), (344, 12, 40)], [], [], [], [(106, 347, 12, km307_c), (132, 350, 12, km18_c), (171, 350, 12, km18_c)])
set_option maxRecDepth 100000 in
theorem km308_k : fx_chk TM 4 km308_c 0 km308_x t_X12_asked km308_a km308_s 35 = true := by decide +kernel
set_option maxRecDepth 100000 in
theorem km308 {l : Launch} {E : (Nat → Prop) → State → Prop} {ad : List Nat} {D : va_G} {cy : Nat → ClassId} (h : fx_env E D classes (tys cy) nestW) : fx_Met l yX12_asked (.code yX12_asked cX12_asked 4 (some .int) :: wsL_law) ({ frames := 1, cells := 0, slots := 0, locals := 23 }) E (gsM, TM, cy, fun _ => True) ad D classes km308_c :=
  fx_sound (x := km308_x) (tb := t_X12_asked) (an := km308_a) (sp := km308_s) (rk := 0) 35 h (fun _ _ _ _ _ _ => trivial) (fun _ _ _ _ _ _ => trivial) (ht_tys cy) (by decide) rfl ⟨fx_an, (fx_ac fl_X12_39 (fx_ac fl_X12_92 (fx_ac fl_X12_274 (fx_ac fl_X12_344 (fx_an))))), fx_an, fx_an, fx_an, (fx_ac (ev_V (km307 h) (by decide) rfl ⟨by decide, by decide⟩ iV_X12_timesOf g_X12_347) (fx_ac (ev_V (km18 h) (by decide) rfl ⟨by decide, by decide⟩ iV_X12_besideTo g_X12_350) (fx_ac (ev_V (km18 h) (by decide) rfl ⟨by decide, by decide⟩ iV_X12_besideTo g_X12_350) (fx_an))))⟩ d_X12_asked km308_k
