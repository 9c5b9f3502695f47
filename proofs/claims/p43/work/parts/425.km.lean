-- X12_signed 0
def km303_c : fx_C := ([.inr (.inr 1)], [((0, 7), .inl (0, 1600))], [(some (.inl (0, 0)), [.inr (.inr 1)], [((0, 4), .inl (1, 5)), ((0, 7), .inl (0, 1600))]), (some (.inl (-2147483648, 2147483647)), [.inr (.inr 1)], [((0, 4), .inl (0, 0)), ((0, 7), .inl (0, 1600))])], [(12, 4), (12, 5), (12, 6), (12, 7), (12, 8), (12, 9), (12, 10)])
def km303_a : List fx_N := []
def km303_s : List fx_D := []
def km303_x : fx_X := ([], [(206, 12, 6), (213, 12, 8), (231, 12, 9)], [], [], [], [(6, 241, 12, km293_c), (15, 262, 12, km298_c), (32, 245, 12, km292_c), (36, 241, 12, km293_c), (51, 248, 12, km295_c), (55, 241, 12, km293_c), (73, 237, 12, km294_c), (82, 241, 12, km293_c), (89, 245, 12, km292_c), (93, 241, 12, km293_c)])
set_option maxRecDepth 100000 in
theorem km303_k : fx_chk TM 4 km303_c 0 km303_x t_X12_signed km303_a km303_s 56 = true := by decide +kernel
set_option maxRecDepth 100000 in
theorem km303 {l : Launch} {E : (Nat → Prop) → State → Prop} {ad : List Nat} {D : va_G} {cy : Nat → ClassId} (h : fx_env E D classes (tys cy) nestW) : fx_Met l yX12_signed (.code yX12_signed cX12_signed 4 (some .int) :: wsL_law) ({ frames := 2, cells := 0, slots := 0, locals := 44 }) E (gsM, TM, cy, fun _ => True) ad D classes km303_c :=
  fx_sound (x := km303_x) (tb := t_X12_signed) (an := km303_a) (sp := km303_s) (rk := 0) 56 h (fun _ _ _ _ _ _ => trivial) (fun _ _ _ _ _ _ => trivial) (ht_tys cy) (by decide) rfl ⟨fx_an, (fx_ac fl_X12_206 (fx_ac fl_X12_213 (fx_ac fl_X12_231 (fx_an)))), fx_an, fx_an, fx_an, (fx_ac (ev_V (km293 h) (by decide) rfl ⟨by decide, by decide⟩ iV_X12_isGood g_X12_241) (fx_ac (ev_V (km298 h) (by decide) rfl ⟨by decide, by decide⟩ iV_X12_isSignHere g_X12_262) (fx_ac (ev_V (km292 h) (by decide) rfl ⟨by decide, by decide⟩ iV_X12_goOn g_X12_245) (fx_ac (ev_V (km293 h) (by decide) rfl ⟨by decide, by decide⟩ iV_X12_isGood g_X12_241) (fx_ac (ev_V (km295 h) (by decide) rfl ⟨by decide, by decide⟩ iV_X12_misplaced g_X12_248) (fx_ac (ev_V (km293 h) (by decide) rfl ⟨by decide, by decide⟩ iV_X12_isGood g_X12_241) (fx_ac (ev_V (km294 h) (by decide) rfl ⟨by decide, by decide⟩ iV_X12_fails g_X12_237) (fx_ac (ev_V (km293 h) (by decide) rfl ⟨by decide, by decide⟩ iV_X12_isGood g_X12_241) (fx_ac (ev_V (km292 h) (by decide) rfl ⟨by decide, by decide⟩ iV_X12_goOn g_X12_245) (fx_ac (ev_V (km293 h) (by decide) rfl ⟨by decide, by decide⟩ iV_X12_isGood g_X12_241) (fx_an)))))))))))⟩ d_X12_signed km303_k
-- X12_after 0 l i i
def km304_c : fx_C := ([.inr (.inr 1), .inr (.inl (-9223372036854775808, 9223372036854775807)), .inl (0, 0), .inl (0, 20)], [((0, 7), .inl (0, 1600))], [(some (.inl (-2147483648, 2147483647)), [.inr (.inr 1), .inr (.inl (-9223372036854775808, 9223372036854775807)), .inl (0, 0), .inl (0, 20)], [((0, 4), .inl (0, 0)), ((0, 7), .inl (0, 1600))]), (some (.inl (0, 0)), [.inr (.inr 1), .inr (.inl (-9223372036854775808, 9223372036854775807)), .inl (0, 0), .inl (0, 20)], [((0, 4), .inl (1, 5)), ((0, 7), .inl (0, 1600))])], [(12, 4), (12, 5), (12, 6), (12, 7), (12, 8), (12, 9), (12, 10)])
def km304_a : List fx_N := []
def km304_s : List fx_D := []
def km304_x : fx_X := ([], [], [], [], [], [(3, 251, 12, km299_c), (6, 254, 12, km296_c), (13, 258, 12, km302_c)])
set_option maxRecDepth 100000 in
theorem km304_k : fx_chk TM 5 km304_c 0 km304_x t_X12_after km304_a km304_s 12 = true := by decide +kernel
set_option maxRecDepth 100000 in
theorem km304 {l : Launch} {E : (Nat → Prop) → State → Prop} {ad : List Nat} {D : va_G} {cy : Nat → ClassId} (h : fx_env E D classes (tys cy) nestW) : fx_Met l yX12_after (.code yX12_after cX12_after 5 (some .int) :: wsL_law) ({ frames := 3, cells := 0, slots := 0, locals := 67 }) E (gsM, TM, cy, fun _ => True) ad D classes km304_c :=
  fx_sound (x := km304_x) (tb := t_X12_after) (an := km304_a) (sp := km304_s) (rk := 0) 12 h (fun _ _ _ _ _ _ => trivial) (fun _ _ _ _ _ _ => trivial) (ht_tys cy) (by decide) rfl ⟨fx_an, fx_an, fx_an, fx_an, fx_an, (fx_ac (ev_V (km299 h) (by decide) rfl ⟨by decide, by decide⟩ iV_X12_isWord g_X12_251) (fx_ac (ev_V (km296 h) (by decide) rfl ⟨by decide, by decide⟩ iV_X12_must g_X12_254) (fx_ac (ev_V (km302 h) (by decide) rfl ⟨by decide, by decide⟩ iV_X12_numeral g_X12_258) (fx_an))))⟩ d_X12_after km304_k
-- X12_wordNamed 0
def km305_c : fx_C := ([.inr (.inr 1)], [], [(some (.inl (0, 8)), [.inr (.inr 1)], [((0, 8), .inl (2, 2))]), (some (.inl (-1, -1)), [.inr (.inr 1)], [])], [])
def km305_a : List fx_N := [(2, [(0, .inr (.inr 1)), (1, .inl (0, 9))], [], [(0, 0), (1, 1), (0, 0)], [(0, 0)])]
def km305_s : List fx_D := []
def km305_x : fx_X := ([], [(20, 12, 11), (73, 12, 28), (213, 12, 8), (220, 12, 10), (265, 12, 35)], [], [], [], [])
set_option maxRecDepth 100000 in
theorem km305_k : fx_chk TM 2 km305_c 0 km305_x t_X12_wordNamed km305_a km305_s 29 = true := by decide +kernel
set_option maxRecDepth 100000 in
theorem km305 {l : Launch} {E : (Nat → Prop) → State → Prop} {ad : List Nat} {D : va_G} {cy : Nat → ClassId} (h : fx_env E D classes (tys cy) nestW) : fx_Met l yX12_wordNamed (.code yX12_wordNamed cX12_wordNamed 2 (some .int) :: wsL_law) ({ frames := 0, cells := 0, slots := 0, locals := 0 }) E (gsM, TM, cy, fun _ => True) ad D classes km305_c :=
  fx_sound (x := km305_x) (tb := t_X12_wordNamed) (an := km305_a) (sp := km305_s) (rk := 0) 29 h (fun _ _ _ _ _ _ => trivial) (fun _ _ _ _ _ _ => trivial) (ht_tys cy) (by decide) rfl ⟨fx_an, (fx_ac fl_X12_20 (fx_ac fl_X12_73 (fx_ac fl_X12_213 (fx_ac fl_X12_220 (fx_ac fl_X12_265 (fx_an)))))), fx_an, fx_an, fx_an, fx_an⟩ d_X12_wordNamed km305_k
